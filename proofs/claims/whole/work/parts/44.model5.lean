/-! Model: who is picked; a morning -/
def f_X7_bfL (mi : MemI) (few : Int32) (lst : Int32) : Nat → Nat
  | 0 => 6
  | j + 1 =>
    if (f_X7_bfL mi few lst j) < 6 then if (mi (8, 12, 0) j) = 1 then (f_X7_bfL mi few lst j)
      else if few = 0 then if lst = 0 then if (mi (8, 36, 0) j) ≤ (mi (8, 36, 0) (f_X7_bfL mi few lst j)) then (f_X7_bfL mi few lst j)
            else j
          else if (mi (8, 36, 0) (f_X7_bfL mi few lst j)) ≤ (mi (8, 36, 0) j) then (f_X7_bfL mi few lst j)
            else j
        else if (mi (8, 38, 0) (f_X7_bfL mi few lst j)) ≤ (mi (8, 38, 0) j) then if (mi (8, 38, 0) j) = (mi (8, 38, 0) (f_X7_bfL mi few lst j)) then if lst = 0 then if (mi (8, 36, 0) j) ≤ (mi (8, 36, 0) (f_X7_bfL mi few lst j)) then (f_X7_bfL mi few lst j)
                else j
              else if (mi (8, 36, 0) (f_X7_bfL mi few lst j)) ≤ (mi (8, 36, 0) j) then (f_X7_bfL mi few lst j)
                else j
            else (f_X7_bfL mi few lst j)
          else j
    else if (mi (8, 12, 0) j) = 1 then 6
      else j
theorem f_X7_bfL_s (mi : MemI) (few : Int32) (lst : Int32) (j : Nat) : f_X7_bfL mi few lst (j + 1) =
    if (f_X7_bfL mi few lst j) < 6 then if (mi (8, 12, 0) j) = 1 then (f_X7_bfL mi few lst j)
      else if few = 0 then if lst = 0 then if (mi (8, 36, 0) j) ≤ (mi (8, 36, 0) (f_X7_bfL mi few lst j)) then (f_X7_bfL mi few lst j)
            else j
          else if (mi (8, 36, 0) (f_X7_bfL mi few lst j)) ≤ (mi (8, 36, 0) j) then (f_X7_bfL mi few lst j)
            else j
        else if (mi (8, 38, 0) (f_X7_bfL mi few lst j)) ≤ (mi (8, 38, 0) j) then if (mi (8, 38, 0) j) = (mi (8, 38, 0) (f_X7_bfL mi few lst j)) then if lst = 0 then if (mi (8, 36, 0) j) ≤ (mi (8, 36, 0) (f_X7_bfL mi few lst j)) then (f_X7_bfL mi few lst j)
                else j
              else if (mi (8, 36, 0) (f_X7_bfL mi few lst j)) ≤ (mi (8, 36, 0) j) then (f_X7_bfL mi few lst j)
                else j
            else (f_X7_bfL mi few lst j)
          else j
    else if (mi (8, 12, 0) j) = 1 then 6
      else j := rfl
set_option maxRecDepth 100000 in
set_option maxHeartbeats 4000000 in
theorem ct_X7_bestFace {nB : Nat} {mi : MemI} {ml : MemL} {few : Int32} {lst : Int32} {nC : Nat} (hm : k_mo nC nB mi) (hfew : few = 0 ∨ few = 1) (hlst : lst = 0 ∨ lst = 1) : k_Ct k_KS k_R0 Mt_X7_bestFace 0 [vR (7, 0, 0), vI few, vI lst] mi ml (k_rt (some (vI (k_op (f_X7_bfL mi few lst nC)))) mi ml) := by
  refine k_ofV (L0 := [vR (7, 0, 0), vI few, vI lst, vU, vU]) (by decide +kernel) (Nat.le_of_ble_eq_true rfl) rfl rfl ?_
  intro p l e s m args below meth c D cy ad bs C
  have hC := hm.1
  have h6 := hm.2.1
  have hB := hm.2.2.1
  have h6b := hm.2.2.2.1
  refine k_iconst (pc := 0) (v := (-1)) C dX7_bestFace_0 (by decide) ?_
  refine k_istore_3 (pc := 1) C dX7_bestFace_1 rfl ?_
  refine k_iconst (pc := 2) (v := 0) C dX7_bestFace_2 (by decide) ?_
  refine k_istore_4 (pc := 3) C dX7_bestFace_3 rfl ?_
  refine k_cast (L' := [vR (7, 0, 0), vI few, vI lst, vI (k_op (f_X7_bfL mi few lst 0)), vI (nI 0)]) (mi' := mi) (ml' := ml) (by first | rfl | decide) rfl rfl ?_
  refine k_down (P := fun j => k_V p l e (k_rm 0) s m args below meth c D cy ad bs k_KS k_R0 0 0 (k_End below D cy ad bs k_KS k_R0 (k_rt (some (vI (k_op (f_X7_bfL mi few lst nC)))) mi ml) args s) mi ml 5 [vR (7, 0, 0), vI few, vI lst, vI (k_op (f_X7_bfL mi few lst j)), vI (nI j)] []) nC ?_ (fun j hj hk => ?_)
  · skip
    refine k_iload (pc := 5) C dX7_bestFace_5 rfl ?_
    refine k_aload_n (pc := 7) C dX7_bestFace_7 rfl ?_
    refine k_getI (pc := 8) C fl_X7_129 k_in7 rfl rfl dX7_bestFace_8 ?_
    refine k_icmp_geT (pc := 11) C 127 dX7_bestFace_11 (by decide) (k_leC hC) ?_
    refine k_iload_n (pc := 127) C dX7_bestFace_127 rfl ?_
    exact k_iret (pc := 128) C rfl  (k_fI (by rfl)) dX7_bestFace_128
  · skip
    try dsimp only at hk
    by_cases hO0 : (f_X7_bfL mi few lst j) < 6
    · skip
      refine k_cast (L' := [vR (7, 0, 0), vI few, vI lst, vI (nI (f_X7_bfL mi few lst j)), vI (nI j)]) (by rw [k_op_s hO0]) rfl rfl ?_
      refine k_iload (pc := 5) C dX7_bestFace_5 rfl ?_
      refine k_aload_n (pc := 7) C dX7_bestFace_7 rfl ?_
      refine k_getI (pc := 8) C fl_X7_129 k_in7 rfl rfl dX7_bestFace_8 ?_
      refine k_icmp_geF (pc := 11) C 127 dX7_bestFace_11 (by decide) (k_ngeC hC h6 hj) ?_
      refine k_aload_n (pc := 14) C dX7_bestFace_14 rfl ?_
      refine k_getR (pc := 15) (r := some (8, 12, 0)) C fl_X7_38 k_in7 rfl rfl rfl dX7_bestFace_15 ?_
      refine k_iload (pc := 18) C dX7_bestFace_18 rfl ?_
      refine k_ialdX (pc := 20) (j := j) C (nI_clamp (by omega)) (by decide +kernel) rfl (vp_in_nI (show _ < (6 : Nat) by omega) (show (6 : Nat) < 2 ^ 31 by decide)) dX7_bestFace_20 ?_
      refine k_iconst (pc := 21) (v := 1) C dX7_bestFace_21 (by decide) ?_
      refine k_icmp_ne (pc := 22) C 28 dX7_bestFace_22 (by decide) (fun c22 => ?_) (fun c22 => ?_)
      · skip
        refine k_iload_n (pc := 28) C dX7_bestFace_28 rfl ?_
        refine k_iconst (pc := 29) (v := (-1)) C dX7_bestFace_29 (by decide) ?_
        refine k_icmp_eqF (pc := 30) C 53 dX7_bestFace_30 (by decide) (k_nIne (by first | assumption | omega)) ?_
        refine k_iload_n (pc := 33) C dX7_bestFace_33 rfl ?_
        refine k_if_eq (pc := 34) C 59 dX7_bestFace_34 (by decide) (fun c34 => ?_) (fun c34 => ?_)
        · skip
          refine k_iload_n (pc := 59) C dX7_bestFace_59 rfl ?_
          refine k_if_eqT (pc := 60) C 79 dX7_bestFace_60 (by decide) c34 ?_
          refine k_iload_n (pc := 79) C dX7_bestFace_79 rfl ?_
          refine k_if_eq (pc := 80) C 102 dX7_bestFace_80 (by decide) (fun c80 => ?_) (fun c80 => ?_)
          · skip
            refine k_aload_n (pc := 102) C dX7_bestFace_102 rfl ?_
            refine k_getR (pc := 103) (r := some (8, 36, 0)) C fl_X7_96 k_in7 rfl rfl rfl dX7_bestFace_103 ?_
            refine k_iload (pc := 106) C dX7_bestFace_106 rfl ?_
            refine k_ialdX (pc := 108) (j := j) C (nI_clamp (by omega)) (by decide +kernel) rfl (vp_in_nI (show _ < (6 : Nat) by omega) (show (6 : Nat) < 2 ^ 31 by decide)) dX7_bestFace_108 ?_
            refine k_aload_n (pc := 109) C dX7_bestFace_109 rfl ?_
            refine k_getR (pc := 110) (r := some (8, 36, 0)) C fl_X7_96 k_in7 rfl rfl rfl dX7_bestFace_110 ?_
            refine k_iload_n (pc := 113) C dX7_bestFace_113 rfl ?_
            refine k_ialdX (pc := 114) (j := (f_X7_bfL mi few lst j)) C (nI_clamp (by omega)) (by decide +kernel) rfl (vp_in_nI (show _ < (6 : Nat) by omega) (show (6 : Nat) < 2 ^ 31 by decide)) dX7_bestFace_114 ?_
            refine k_icmp_le (pc := 115) C 121 dX7_bestFace_115 (by decide) (fun c115 => ?_) (fun c115 => ?_)
            · skip
              refine k_iinc_4 (pc := 121) (v := nI (j + 1)) C dX7_bestFace_121 (k_inc j) rfl ?_
              refine k_goto (pc := 124) C 5 dX7_bestFace_124 (by decide) ?_
              exact k_cast (by rw [f_X7_bfL_s, if_pos hO0, if_neg c22, if_pos c34, if_pos c80, if_pos c115, k_op_s hO0]) rfl rfl hk
            · skip
              refine k_iload (pc := 118) C dX7_bestFace_118 rfl ?_
              refine k_istore_3 (pc := 120) C dX7_bestFace_120 rfl ?_
              refine k_iinc_4 (pc := 121) (v := nI (j + 1)) C dX7_bestFace_121 (k_inc j) rfl ?_
              refine k_goto (pc := 124) C 5 dX7_bestFace_124 (by decide) ?_
              exact k_cast (by rw [f_X7_bfL_s, if_pos hO0, if_neg c22, if_pos c34, if_pos c80, if_neg c115, k_op_s (by first | assumption | omega)]) rfl rfl hk
          · skip
            refine k_aload_n (pc := 83) C dX7_bestFace_83 rfl ?_
            refine k_getR (pc := 84) (r := some (8, 36, 0)) C fl_X7_96 k_in7 rfl rfl rfl dX7_bestFace_84 ?_
            refine k_iload (pc := 87) C dX7_bestFace_87 rfl ?_
            refine k_ialdX (pc := 89) (j := j) C (nI_clamp (by omega)) (by decide +kernel) rfl (vp_in_nI (show _ < (6 : Nat) by omega) (show (6 : Nat) < 2 ^ 31 by decide)) dX7_bestFace_89 ?_
            refine k_aload_n (pc := 90) C dX7_bestFace_90 rfl ?_
            refine k_getR (pc := 91) (r := some (8, 36, 0)) C fl_X7_96 k_in7 rfl rfl rfl dX7_bestFace_91 ?_
            refine k_iload_n (pc := 94) C dX7_bestFace_94 rfl ?_
            refine k_ialdX (pc := 95) (j := (f_X7_bfL mi few lst j)) C (nI_clamp (by omega)) (by decide +kernel) rfl (vp_in_nI (show _ < (6 : Nat) by omega) (show (6 : Nat) < 2 ^ 31 by decide)) dX7_bestFace_95 ?_
            refine k_icmp_ge (pc := 96) C 121 dX7_bestFace_96 (by decide) (fun c96 => ?_) (fun c96 => ?_)
            · skip
              refine k_iinc_4 (pc := 121) (v := nI (j + 1)) C dX7_bestFace_121 (k_inc j) rfl ?_
              refine k_goto (pc := 124) C 5 dX7_bestFace_124 (by decide) ?_
              exact k_cast (by rw [f_X7_bfL_s, if_pos hO0, if_neg c22, if_pos c34, if_neg c80, if_pos c96, k_op_s hO0]) rfl rfl hk
            · skip
              refine k_goto (pc := 99) C 118 dX7_bestFace_99 (by decide) ?_
              refine k_iload (pc := 118) C dX7_bestFace_118 rfl ?_
              refine k_istore_3 (pc := 120) C dX7_bestFace_120 rfl ?_
              refine k_iinc_4 (pc := 121) (v := nI (j + 1)) C dX7_bestFace_121 (k_inc j) rfl ?_
              refine k_goto (pc := 124) C 5 dX7_bestFace_124 (by decide) ?_
              exact k_cast (by rw [f_X7_bfL_s, if_pos hO0, if_neg c22, if_pos c34, if_neg c80, if_neg c96, k_op_s (by first | assumption | omega)]) rfl rfl hk
        · skip
          refine k_aload_n (pc := 37) C dX7_bestFace_37 rfl ?_
          refine k_getR (pc := 38) (r := some (8, 38, 0)) C fl_X7_102 k_in7 rfl rfl rfl dX7_bestFace_38 ?_
          refine k_iload (pc := 41) C dX7_bestFace_41 rfl ?_
          refine k_ialdX (pc := 43) (j := j) C (nI_clamp (by omega)) (by decide +kernel) rfl (vp_in_nI (show _ < (6 : Nat) by omega) (show (6 : Nat) < 2 ^ 31 by decide)) dX7_bestFace_43 ?_
          refine k_aload_n (pc := 44) C dX7_bestFace_44 rfl ?_
          refine k_getR (pc := 45) (r := some (8, 38, 0)) C fl_X7_102 k_in7 rfl rfl rfl dX7_bestFace_45 ?_
          refine k_iload_n (pc := 48) C dX7_bestFace_48 rfl ?_
          refine k_ialdX (pc := 49) (j := (f_X7_bfL mi few lst j)) C (nI_clamp (by omega)) (by decide +kernel) rfl (vp_in_nI (show _ < (6 : Nat) by omega) (show (6 : Nat) < 2 ^ 31 by decide)) dX7_bestFace_49 ?_
          refine k_icmp_ge (pc := 50) C 59 dX7_bestFace_50 (by decide) (fun c50 => ?_) (fun c50 => ?_)
          · skip
            refine k_iload_n (pc := 59) C dX7_bestFace_59 rfl ?_
            refine k_if_eqF (pc := 60) C 79 dX7_bestFace_60 (by decide) c34 ?_
            refine k_aload_n (pc := 63) C dX7_bestFace_63 rfl ?_
            refine k_getR (pc := 64) (r := some (8, 38, 0)) C fl_X7_102 k_in7 rfl rfl rfl dX7_bestFace_64 ?_
            refine k_iload (pc := 67) C dX7_bestFace_67 rfl ?_
            refine k_ialdX (pc := 69) (j := j) C (nI_clamp (by omega)) (by decide +kernel) rfl (vp_in_nI (show _ < (6 : Nat) by omega) (show (6 : Nat) < 2 ^ 31 by decide)) dX7_bestFace_69 ?_
            refine k_aload_n (pc := 70) C dX7_bestFace_70 rfl ?_
            refine k_getR (pc := 71) (r := some (8, 38, 0)) C fl_X7_102 k_in7 rfl rfl rfl dX7_bestFace_71 ?_
            refine k_iload_n (pc := 74) C dX7_bestFace_74 rfl ?_
            refine k_ialdX (pc := 75) (j := (f_X7_bfL mi few lst j)) C (nI_clamp (by omega)) (by decide +kernel) rfl (vp_in_nI (show _ < (6 : Nat) by omega) (show (6 : Nat) < 2 ^ 31 by decide)) dX7_bestFace_75 ?_
            refine k_icmp_ne (pc := 76) C 121 dX7_bestFace_76 (by decide) (fun c76 => ?_) (fun c76 => ?_)
            · skip
              refine k_iinc_4 (pc := 121) (v := nI (j + 1)) C dX7_bestFace_121 (k_inc j) rfl ?_
              refine k_goto (pc := 124) C 5 dX7_bestFace_124 (by decide) ?_
              exact k_cast (by rw [f_X7_bfL_s, if_pos hO0, if_neg c22, if_neg c34, if_pos c50, if_neg c76, k_op_s hO0]) rfl rfl hk
            · skip
              refine k_iload_n (pc := 79) C dX7_bestFace_79 rfl ?_
              refine k_if_eq (pc := 80) C 102 dX7_bestFace_80 (by decide) (fun c80 => ?_) (fun c80 => ?_)
              · skip
                refine k_aload_n (pc := 102) C dX7_bestFace_102 rfl ?_
                refine k_getR (pc := 103) (r := some (8, 36, 0)) C fl_X7_96 k_in7 rfl rfl rfl dX7_bestFace_103 ?_
                refine k_iload (pc := 106) C dX7_bestFace_106 rfl ?_
                refine k_ialdX (pc := 108) (j := j) C (nI_clamp (by omega)) (by decide +kernel) rfl (vp_in_nI (show _ < (6 : Nat) by omega) (show (6 : Nat) < 2 ^ 31 by decide)) dX7_bestFace_108 ?_
                refine k_aload_n (pc := 109) C dX7_bestFace_109 rfl ?_
                refine k_getR (pc := 110) (r := some (8, 36, 0)) C fl_X7_96 k_in7 rfl rfl rfl dX7_bestFace_110 ?_
                refine k_iload_n (pc := 113) C dX7_bestFace_113 rfl ?_
                refine k_ialdX (pc := 114) (j := (f_X7_bfL mi few lst j)) C (nI_clamp (by omega)) (by decide +kernel) rfl (vp_in_nI (show _ < (6 : Nat) by omega) (show (6 : Nat) < 2 ^ 31 by decide)) dX7_bestFace_114 ?_
                refine k_icmp_le (pc := 115) C 121 dX7_bestFace_115 (by decide) (fun c115 => ?_) (fun c115 => ?_)
                · skip
                  refine k_iinc_4 (pc := 121) (v := nI (j + 1)) C dX7_bestFace_121 (k_inc j) rfl ?_
                  refine k_goto (pc := 124) C 5 dX7_bestFace_124 (by decide) ?_
                  exact k_cast (by rw [f_X7_bfL_s, if_pos hO0, if_neg c22, if_neg c34, if_pos c50, if_pos c76, if_pos c80, if_pos c115, k_op_s hO0]) rfl rfl hk
                · skip
                  refine k_iload (pc := 118) C dX7_bestFace_118 rfl ?_
                  refine k_istore_3 (pc := 120) C dX7_bestFace_120 rfl ?_
                  refine k_iinc_4 (pc := 121) (v := nI (j + 1)) C dX7_bestFace_121 (k_inc j) rfl ?_
                  refine k_goto (pc := 124) C 5 dX7_bestFace_124 (by decide) ?_
                  exact k_cast (by rw [f_X7_bfL_s, if_pos hO0, if_neg c22, if_neg c34, if_pos c50, if_pos c76, if_pos c80, if_neg c115, k_op_s (by first | assumption | omega)]) rfl rfl hk
              · skip
                refine k_aload_n (pc := 83) C dX7_bestFace_83 rfl ?_
                refine k_getR (pc := 84) (r := some (8, 36, 0)) C fl_X7_96 k_in7 rfl rfl rfl dX7_bestFace_84 ?_
                refine k_iload (pc := 87) C dX7_bestFace_87 rfl ?_
                refine k_ialdX (pc := 89) (j := j) C (nI_clamp (by omega)) (by decide +kernel) rfl (vp_in_nI (show _ < (6 : Nat) by omega) (show (6 : Nat) < 2 ^ 31 by decide)) dX7_bestFace_89 ?_
                refine k_aload_n (pc := 90) C dX7_bestFace_90 rfl ?_
                refine k_getR (pc := 91) (r := some (8, 36, 0)) C fl_X7_96 k_in7 rfl rfl rfl dX7_bestFace_91 ?_
                refine k_iload_n (pc := 94) C dX7_bestFace_94 rfl ?_
                refine k_ialdX (pc := 95) (j := (f_X7_bfL mi few lst j)) C (nI_clamp (by omega)) (by decide +kernel) rfl (vp_in_nI (show _ < (6 : Nat) by omega) (show (6 : Nat) < 2 ^ 31 by decide)) dX7_bestFace_95 ?_
                refine k_icmp_ge (pc := 96) C 121 dX7_bestFace_96 (by decide) (fun c96 => ?_) (fun c96 => ?_)
                · skip
                  refine k_iinc_4 (pc := 121) (v := nI (j + 1)) C dX7_bestFace_121 (k_inc j) rfl ?_
                  refine k_goto (pc := 124) C 5 dX7_bestFace_124 (by decide) ?_
                  exact k_cast (by rw [f_X7_bfL_s, if_pos hO0, if_neg c22, if_neg c34, if_pos c50, if_pos c76, if_neg c80, if_pos c96, k_op_s hO0]) rfl rfl hk
                · skip
                  refine k_goto (pc := 99) C 118 dX7_bestFace_99 (by decide) ?_
                  refine k_iload (pc := 118) C dX7_bestFace_118 rfl ?_
                  refine k_istore_3 (pc := 120) C dX7_bestFace_120 rfl ?_
                  refine k_iinc_4 (pc := 121) (v := nI (j + 1)) C dX7_bestFace_121 (k_inc j) rfl ?_
                  refine k_goto (pc := 124) C 5 dX7_bestFace_124 (by decide) ?_
                  exact k_cast (by rw [f_X7_bfL_s, if_pos hO0, if_neg c22, if_neg c34, if_pos c50, if_pos c76, if_neg c80, if_neg c96, k_op_s (by first | assumption | omega)]) rfl rfl hk
          · skip
            refine k_iload (pc := 53) C dX7_bestFace_53 rfl ?_
            refine k_istore_3 (pc := 55) C dX7_bestFace_55 rfl ?_
            refine k_goto (pc := 56) C 121 dX7_bestFace_56 (by decide) ?_
            refine k_iinc_4 (pc := 121) (v := nI (j + 1)) C dX7_bestFace_121 (k_inc j) rfl ?_
            refine k_goto (pc := 124) C 5 dX7_bestFace_124 (by decide) ?_
            exact k_cast (by rw [f_X7_bfL_s, if_pos hO0, if_neg c22, if_neg c34, if_neg c50, k_op_s (by first | assumption | omega)]) rfl rfl hk
      · skip
        refine k_goto (pc := 25) C 121 dX7_bestFace_25 (by decide) ?_
        refine k_iinc_4 (pc := 121) (v := nI (j + 1)) C dX7_bestFace_121 (k_inc j) rfl ?_
        refine k_goto (pc := 124) C 5 dX7_bestFace_124 (by decide) ?_
        exact k_cast (by rw [f_X7_bfL_s, if_pos hO0, if_pos c22, k_op_s hO0]) rfl rfl hk
    · skip
      refine k_cast (L' := [vR (7, 0, 0), vI few, vI lst, vI (-1), vI (nI j)]) (by rw [k_op_n hO0]) rfl rfl ?_
      refine k_iload (pc := 5) C dX7_bestFace_5 rfl ?_
      refine k_aload_n (pc := 7) C dX7_bestFace_7 rfl ?_
      refine k_getI (pc := 8) C fl_X7_129 k_in7 rfl rfl dX7_bestFace_8 ?_
      refine k_icmp_geF (pc := 11) C 127 dX7_bestFace_11 (by decide) (k_ngeC hC h6 hj) ?_
      refine k_aload_n (pc := 14) C dX7_bestFace_14 rfl ?_
      refine k_getR (pc := 15) (r := some (8, 12, 0)) C fl_X7_38 k_in7 rfl rfl rfl dX7_bestFace_15 ?_
      refine k_iload (pc := 18) C dX7_bestFace_18 rfl ?_
      refine k_ialdX (pc := 20) (j := j) C (nI_clamp (by omega)) (by decide +kernel) rfl (vp_in_nI (show _ < (6 : Nat) by omega) (show (6 : Nat) < 2 ^ 31 by decide)) dX7_bestFace_20 ?_
      refine k_iconst (pc := 21) (v := 1) C dX7_bestFace_21 (by decide) ?_
      refine k_icmp_ne (pc := 22) C 28 dX7_bestFace_22 (by decide) (fun c22 => ?_) (fun c22 => ?_)
      · skip
        refine k_iload_n (pc := 28) C dX7_bestFace_28 rfl ?_
        refine k_iconst (pc := 29) (v := (-1)) C dX7_bestFace_29 (by decide) ?_
        refine k_icmp_eqT (pc := 30) C 53 dX7_bestFace_30 (by decide) (by decide) ?_
        refine k_iload (pc := 53) C dX7_bestFace_53 rfl ?_
        refine k_istore_3 (pc := 55) C dX7_bestFace_55 rfl ?_
        refine k_goto (pc := 56) C 121 dX7_bestFace_56 (by decide) ?_
        refine k_iinc_4 (pc := 121) (v := nI (j + 1)) C dX7_bestFace_121 (k_inc j) rfl ?_
        refine k_goto (pc := 124) C 5 dX7_bestFace_124 (by decide) ?_
        exact k_cast (by rw [f_X7_bfL_s, if_neg hO0, if_neg c22, k_op_s (by first | assumption | omega)]) rfl rfl hk
      · skip
        refine k_goto (pc := 25) C 121 dX7_bestFace_25 (by decide) ?_
        refine k_iinc_4 (pc := 121) (v := nI (j + 1)) C dX7_bestFace_121 (k_inc j) rfl ?_
        refine k_goto (pc := 124) C 5 dX7_bestFace_124 (by decide) ?_
        exact k_cast (by rw [f_X7_bfL_s, if_neg hO0, if_pos c22, k_op_6]) rfl rfl hk
def f_X7_blR (mi : MemI) : Nat → Nat → Int32 → Nat
  | 0, _, _ => 6
  | u + 1, j, x => if mi (8, 12, 0) j = 1 then f_X7_blR mi u (j + 1) x else if x = 0 then j else f_X7_blR mi u (j + 1) (x + (-1))
theorem f_X7_blR_s (mi : MemI) (u j : Nat) (x : Int32) : f_X7_blR mi (u + 1) j x = if mi (8, 12, 0) j = 1 then f_X7_blR mi u (j + 1) x else if x = 0 then j else f_X7_blR mi u (j + 1) (x + (-1)) := rfl
def f_X7_bl1 (mi : MemI) : Nat → Int32
  | 0 => 0
  | j + 1 =>
    ((f_X7_bl1 mi j) + (1 - (mi (8, 12, 0) j)))
theorem f_X7_bl1_s (mi : MemI) (j : Nat) : f_X7_bl1 mi (j + 1) =
    ((f_X7_bl1 mi j) + (1 - (mi (8, 12, 0) j))) := rfl
def f_X7_blindly (mi : MemI) (b : Int32) (nC : Nat) : Nat :=
  if (f_X7_bl1 mi nC) = 0 then 6
  else (f_X7_blR mi nC 0 ((b + (mi (7, 0, 0) 2)) - (b + (mi (7, 0, 0) 2)) / (f_X7_bl1 mi nC) * (f_X7_bl1 mi nC)))
set_option maxRecDepth 100000 in
set_option maxHeartbeats 4000000 in
theorem ct_X7_blindly {nB : Nat} {mi : MemI} {ml : MemL} {b : Int32} {nC : Nat} (hm : k_mo nC nB mi) : k_Ct k_KS k_R0 Mt_X7_blindly 0 [vR (7, 0, 0), vI b] mi ml (k_rt (some (vI (k_op (f_X7_blindly mi b nC)))) mi ml) := by
  refine k_ofV (L0 := [vR (7, 0, 0), vI b, vU, vU, vU]) (by decide +kernel) (Nat.le_of_ble_eq_true rfl) rfl rfl ?_
  intro p l e s m args below meth c D cy ad bs C
  have hC := hm.1
  have h6 := hm.2.1
  have hB := hm.2.2.1
  have h6b := hm.2.2.2.1
  refine k_iconst (pc := 0) (v := 0) C dX7_blindly_0 (by decide) ?_
  refine k_istore_2 (pc := 1) C dX7_blindly_1 rfl ?_
  refine k_iconst (pc := 2) (v := 0) C dX7_blindly_2 (by decide) ?_
  refine k_istore_3 (pc := 3) C dX7_blindly_3 rfl ?_
  refine k_cast (L' := [vR (7, 0, 0), vI b, vI (f_X7_bl1 mi 0), vI (nI 0), vU]) (mi' := mi) (ml' := ml) rfl rfl rfl ?_
  refine k_down (P := fun j => k_V p l e (k_rm 0) s m args below meth c D cy ad bs k_KS k_R0 0 0 (k_End below D cy ad bs k_KS k_R0 (k_rt (some (vI (k_op (f_X7_blindly mi b nC)))) mi ml) args s) mi ml 4 [vR (7, 0, 0), vI b, vI (f_X7_bl1 mi j), vI (nI j), vU] []) nC ?_ (fun j hj hk => ?_)
  · skip
    refine k_iload_n (pc := 4) C dX7_blindly_4 rfl ?_
    refine k_aload_n (pc := 5) C dX7_blindly_5 rfl ?_
    refine k_getI (pc := 6) C fl_X7_129 k_in7 rfl rfl dX7_blindly_6 ?_
    refine k_icmp_geT (pc := 9) C 29 dX7_blindly_9 (by decide) (k_leC hC) ?_
    refine k_iload_n (pc := 29) C dX7_blindly_29 rfl ?_
    refine k_if_ne (pc := 30) C 35 dX7_blindly_30 (by decide) (fun c30 => ?_) (fun c30 => ?_)
    · skip
      refine k_iload_n (pc := 35) C dX7_blindly_35 rfl ?_
      refine k_aload_n (pc := 36) C dX7_blindly_36 rfl ?_
      refine k_getI (pc := 37) C fl_X7_207 k_in7 rfl rfl dX7_blindly_37 ?_
      refine k_iadd (pc := 40) C dX7_blindly_40 ?_
      refine k_iload_n (pc := 41) C dX7_blindly_41 rfl ?_
      refine k_irem (pc := 42) C dX7_blindly_42 (by first | assumption | exact k_ne0 (by assumption)) ?_
      refine k_istore_3 (pc := 43) C dX7_blindly_43 rfl ?_
      refine k_iconst (pc := 44) (v := 0) C dX7_blindly_44 (by decide) ?_
      refine k_istore_4 (pc := 45) C dX7_blindly_45 rfl ?_
      have hF : f_X7_blindly mi b nC = f_X7_blR mi nC 0 ((b + (mi (7, 0, 0) 2)) - (b + (mi (7, 0, 0) 2)) / (f_X7_bl1 mi nC) * (f_X7_bl1 mi nC)) := by unfold f_X7_blindly; rw [if_neg c30]
      rw [hF]
      refine k_drop_2 ?_
      have hloop : ∀ (u j : Nat) (x : Int32), j + u = nC → f_X7_blR mi u j x = f_X7_blR mi nC 0 ((b + (mi (7, 0, 0) 2)) - (b + (mi (7, 0, 0) 2)) / (f_X7_bl1 mi nC) * (f_X7_bl1 mi nC)) → k_V p l e (k_rm 0) s m args below meth c D cy ad bs k_KS k_R0 0 0 (k_End below D cy ad bs k_KS k_R0 (k_rt (some (vI (k_op (f_X7_blR mi nC 0 ((b + (mi (7, 0, 0) 2)) - (b + (mi (7, 0, 0) 2)) / (f_X7_bl1 mi nC) * (f_X7_bl1 mi nC)))))) mi ml) args s) mi ml 47 [vR (7, 0, 0), vI b, vU, vI x, vI (nI j)] [] := by
        intro u
        induction u with
        | zero =>
          intro j x hjn hres
          have hjC : j = nC := (by omega); rw [hjC] at hres ⊢
          refine k_iload (pc := 47) C dX7_blindly_47 rfl ?_
          refine k_aload_n (pc := 49) C dX7_blindly_49 rfl ?_
          refine k_getI (pc := 50) C fl_X7_129 k_in7 rfl rfl dX7_blindly_50 ?_
          refine k_icmp_geT (pc := 53) C 86 dX7_blindly_53 (by decide) (k_leC hC) ?_
          refine k_iconst (pc := 86) (v := (-1)) C dX7_blindly_86 (by decide) ?_
          exact k_iret (pc := 87) C rfl (k_fI (by rw [← hres] <;> rfl)) dX7_blindly_87
        | succ u ih =>
          intro j x hjn hres
          have hj : j < nC := by omega
          refine k_iload (pc := 47) C dX7_blindly_47 rfl ?_
          refine k_aload_n (pc := 49) C dX7_blindly_49 rfl ?_
          refine k_getI (pc := 50) C fl_X7_129 k_in7 rfl rfl dX7_blindly_50 ?_
          refine k_icmp_geF (pc := 53) C 86 dX7_blindly_53 (by decide) (k_ngeC hC h6 hj) ?_
          refine k_aload_n (pc := 56) C dX7_blindly_56 rfl ?_
          refine k_getR (pc := 57) (r := some (8, 12, 0)) C fl_X7_38 k_in7 rfl rfl rfl dX7_blindly_57 ?_
          refine k_iload (pc := 60) C dX7_blindly_60 rfl ?_
          refine k_ialdX (pc := 62) (j := j) C (nI_clamp (by omega)) (by decide +kernel) rfl (vp_in_nI (show _ < (6 : Nat) by omega) (show (6 : Nat) < 2 ^ 31 by decide)) dX7_blindly_62 ?_
          refine k_iconst (pc := 63) (v := 1) C dX7_blindly_63 (by decide) ?_
          refine k_icmp_ne (pc := 64) C 70 dX7_blindly_64 (by decide) (fun c64 => ?_) (fun c64 => ?_)
          · skip
            refine k_iload_n (pc := 70) C dX7_blindly_70 rfl ?_
            refine k_if_ne (pc := 71) C 77 dX7_blindly_71 (by decide) (fun c71 => ?_) (fun c71 => ?_)
            · skip
              refine k_iinc_3 (pc := 77) (v := x + (-1)) C dX7_blindly_77 rfl rfl ?_
              refine k_iinc_4 (pc := 80) (v := nI (j + 1)) C dX7_blindly_80 (k_inc j) rfl ?_
              refine k_goto (pc := 83) C 47 dX7_blindly_83 (by decide) ?_
              exact ih (j + 1) (x + (-1)) (by omega) (by rw [← hres, f_X7_blR_s, if_neg c64, if_neg c71])
            · skip
              refine k_iload (pc := 74) C dX7_blindly_74 rfl ?_
              exact k_iret (pc := 76) C rfl (k_fI (by rw [← hres, f_X7_blR_s, if_neg c64, if_pos c71]; exact k_op_s (by omega))) dX7_blindly_76
          · skip
            refine k_goto (pc := 67) C 80 dX7_blindly_67 (by decide) ?_
            refine k_iinc_4 (pc := 80) (v := nI (j + 1)) C dX7_blindly_80 (k_inc j) rfl ?_
            refine k_goto (pc := 83) C 47 dX7_blindly_83 (by decide) ?_
            exact ih (j + 1) x (by omega) (by rw [← hres, f_X7_blR_s, if_pos c64])
      exact hloop nC 0 ((b + (mi (7, 0, 0) 2)) - (b + (mi (7, 0, 0) 2)) / (f_X7_bl1 mi nC) * (f_X7_bl1 mi nC)) (by omega) rfl
    · skip
      refine k_iconst (pc := 33) (v := (-1)) C dX7_blindly_33 (by decide) ?_
      exact k_iret (pc := 34) C rfl  (k_fI (by unfold f_X7_blindly; rw [if_pos c30]; exact k_op_6)) dX7_blindly_34
  · skip
    try dsimp only at hk
    refine k_iload_n (pc := 4) C dX7_blindly_4 rfl ?_
    refine k_aload_n (pc := 5) C dX7_blindly_5 rfl ?_
    refine k_getI (pc := 6) C fl_X7_129 k_in7 rfl rfl dX7_blindly_6 ?_
    refine k_icmp_geF (pc := 9) C 29 dX7_blindly_9 (by decide) (k_ngeC hC h6 hj) ?_
    refine k_iload_n (pc := 12) C dX7_blindly_12 rfl ?_
    refine k_iconst (pc := 13) (v := 1) C dX7_blindly_13 (by decide) ?_
    refine k_aload_n (pc := 14) C dX7_blindly_14 rfl ?_
    refine k_getR (pc := 15) (r := some (8, 12, 0)) C fl_X7_38 k_in7 rfl rfl rfl dX7_blindly_15 ?_
    refine k_iload_n (pc := 18) C dX7_blindly_18 rfl ?_
    refine k_ialdX (pc := 19) (j := j) C (nI_clamp (by omega)) (by decide +kernel) rfl (vp_in_nI (show _ < (6 : Nat) by omega) (show (6 : Nat) < 2 ^ 31 by decide)) dX7_blindly_19 ?_
    refine k_isub (pc := 20) C dX7_blindly_20 ?_
    refine k_iadd (pc := 21) C dX7_blindly_21 ?_
    refine k_istore_2 (pc := 22) C dX7_blindly_22 rfl ?_
    refine k_iinc_3 (pc := 23) (v := nI (j + 1)) C dX7_blindly_23 (k_inc j) rfl ?_
    refine k_goto (pc := 26) C 4 dX7_blindly_26 (by decide) ?_
    exact k_cast (by rw [f_X7_bl1_s]) rfl rfl hk
def f_X7_picksBy (mi : MemI) (b : Nat) (r : Int32) (nC : Nat) : Nat :=
  if r = 1 then if (f_X7_bfL mi 0 1 nC) < 6 then (f_X7_bfL mi 0 1 nC)
    else 6
  else if r = 2 then if (f_X7_bfL mi 1 0 nC) < 6 then (f_X7_bfL mi 1 0 nC)
      else 6
    else if r = 3 then if (f_X7_blindly mi (nI b) nC) < 6 then (f_X7_blindly mi (nI b) nC)
        else 6
      else if r = 4 then if (mi (8, 15, 0) b) = (-1) then if (f_X7_bfL mi 0 0 nC) < 6 then (f_X7_bfL mi 0 0 nC)
            else 6
          else if (mi (8, 12, 0) ((mi (8, 15, 0) b).toNatClampNeg)) = 0 then ((mi (8, 15, 0) b).toNatClampNeg)
            else if (f_X7_bfL mi 0 0 nC) < 6 then (f_X7_bfL mi 0 0 nC)
              else 6
        else if (f_X7_bfL mi 0 0 nC) < 6 then (f_X7_bfL mi 0 0 nC)
          else 6
set_option maxRecDepth 100000 in
set_option maxHeartbeats 4000000 in
theorem ct_X7_picksBy {nB : Nat} {mi : MemI} {ml : MemL} {b : Nat} {r : Int32} {nC : Nat} (hm : k_mo nC nB mi) (hb : b < nB) : k_Ct k_KS k_R0 Mt_X7_picksBy 1 [vR (7, 0, 0), vI (nI b), vI r] mi ml (k_rt (some (vI (k_op (f_X7_picksBy mi b r nC)))) mi ml) := by
  refine k_ofV (L0 := [vR (7, 0, 0), vI (nI b), vI r]) (by decide +kernel) (Nat.le_of_ble_eq_true rfl) rfl rfl ?_
  intro p l e s m args below meth c D cy ad bs C
  have hC := hm.1
  have h6 := hm.2.1
  have hB := hm.2.2.1
  have h6b := hm.2.2.2.1
  have hl := hm.2.2.2.2 b hb
  refine k_iload_n (pc := 0) C dX7_picksBy_0 rfl ?_
  by_cases c1_1 : r = 1
  · skip
    refine k_tabIn (pc := 1) (v := 1) C 32 dX7_picksBy_1 c1_1 (by decide) (by decide) rfl (by decide) ?_
    refine k_aload_n (pc := 32) C dX7_picksBy_32 rfl ?_
    refine k_iconst (pc := 33) (v := 0) C dX7_picksBy_33 (by decide) ?_
    refine k_iconst (pc := 34) (v := 1) C dX7_picksBy_34 (by decide) ?_
    refine k_call2 (pc := 35) C cv_X7_220 (ct_X7_bestFace hm (Or.inl rfl) (Or.inr rfl)) k_in7 rfl (by decide) rfl (Nat.le_of_ble_eq_true rfl) dX7_picksBy_35 ?_
    by_cases c35 : (f_X7_bfL mi 0 1 nC) < 6
    · skip
      refine k_sx (x := nI (f_X7_bfL mi 0 1 nC)) (k_op_s c35) ?_
      exact k_iret (pc := 38) C rfl  (k_fI (by unfold f_X7_picksBy; rw [if_pos c1_1, if_pos c35]; exact k_op_s c35)) dX7_picksBy_38
    · skip
      refine k_sx (x := -1) (k_op_n c35) ?_
      exact k_iret (pc := 38) C rfl  (k_fI (by unfold f_X7_picksBy; rw [if_pos c1_1, if_neg c35]; exact k_op_6)) dX7_picksBy_38
  by_cases c1_2 : r = 2
  · skip
    refine k_tabIn (pc := 1) (v := 2) C 39 dX7_picksBy_1 c1_2 (by decide) (by decide) rfl (by decide) ?_
    refine k_aload_n (pc := 39) C dX7_picksBy_39 rfl ?_
    refine k_iconst (pc := 40) (v := 1) C dX7_picksBy_40 (by decide) ?_
    refine k_iconst (pc := 41) (v := 0) C dX7_picksBy_41 (by decide) ?_
    refine k_call2 (pc := 42) C cv_X7_220 (ct_X7_bestFace hm (Or.inr rfl) (Or.inl rfl)) k_in7 rfl (by decide) rfl (Nat.le_of_ble_eq_true rfl) dX7_picksBy_42 ?_
    by_cases c42 : (f_X7_bfL mi 1 0 nC) < 6
    · skip
      refine k_sx (x := nI (f_X7_bfL mi 1 0 nC)) (k_op_s c42) ?_
      exact k_iret (pc := 45) C rfl  (k_fI (by unfold f_X7_picksBy; rw [if_neg c1_1, if_pos c1_2, if_pos c42]; exact k_op_s c42)) dX7_picksBy_45
    · skip
      refine k_sx (x := -1) (k_op_n c42) ?_
      exact k_iret (pc := 45) C rfl  (k_fI (by unfold f_X7_picksBy; rw [if_neg c1_1, if_pos c1_2, if_neg c42]; exact k_op_6)) dX7_picksBy_45
  by_cases c1_3 : r = 3
  · skip
    refine k_tabIn (pc := 1) (v := 3) C 46 dX7_picksBy_1 c1_3 (by decide) (by decide) rfl (by decide) ?_
    refine k_aload_n (pc := 46) C dX7_picksBy_46 rfl ?_
    refine k_iload_n (pc := 47) C dX7_picksBy_47 rfl ?_
    refine k_call1 (pc := 48) C cv_X7_224 (ct_X7_blindly hm) k_in7 rfl (by decide) rfl (Nat.le_of_ble_eq_true rfl) dX7_picksBy_48 ?_
    by_cases c48 : (f_X7_blindly mi (nI b) nC) < 6
    · skip
      refine k_sx (x := nI (f_X7_blindly mi (nI b) nC)) (k_op_s c48) ?_
      exact k_iret (pc := 51) C rfl  (k_fI (by unfold f_X7_picksBy; rw [if_neg c1_1, if_neg c1_2, if_pos c1_3, if_pos c48]; exact k_op_s c48)) dX7_picksBy_51
    · skip
      refine k_sx (x := -1) (k_op_n c48) ?_
      exact k_iret (pc := 51) C rfl  (k_fI (by unfold f_X7_picksBy; rw [if_neg c1_1, if_neg c1_2, if_pos c1_3, if_neg c48]; exact k_op_6)) dX7_picksBy_51
  by_cases c1_4 : r = 4
  · skip
    refine k_tabIn (pc := 1) (v := 4) C 52 dX7_picksBy_1 c1_4 (by decide) (by decide) rfl (by decide) ?_
    refine k_aload_n (pc := 52) C dX7_picksBy_52 rfl ?_
    refine k_getR (pc := 53) (r := some (8, 15, 0)) C fl_X7_47 k_in7 rfl rfl rfl dX7_picksBy_53 ?_
    refine k_iload_n (pc := 56) C dX7_picksBy_56 rfl ?_
    refine k_ialdX (pc := 57) (j := b) C (nI_clamp (by omega)) (by decide +kernel) rfl (vp_in_nI (show _ < (6 : Nat) by omega) (show (6 : Nat) < 2 ^ 31 by decide)) dX7_picksBy_57 ?_
    refine k_iconst (pc := 58) (v := (-1)) C dX7_picksBy_58 (by decide) ?_
    refine k_icmp_eq (pc := 59) C 85 dX7_picksBy_59 (by decide) (fun c59 => ?_) (fun c59 => ?_)
    · skip
      refine k_aload_n (pc := 85) C dX7_picksBy_85 rfl ?_
      refine k_iconst (pc := 86) (v := 0) C dX7_picksBy_86 (by decide) ?_
      refine k_iconst (pc := 87) (v := 0) C dX7_picksBy_87 (by decide) ?_
      refine k_call2 (pc := 88) C cv_X7_220 (ct_X7_bestFace hm (Or.inl rfl) (Or.inl rfl)) k_in7 rfl (by decide) rfl (Nat.le_of_ble_eq_true rfl) dX7_picksBy_88 ?_
      by_cases c88 : (f_X7_bfL mi 0 0 nC) < 6
      · skip
        refine k_sx (x := nI (f_X7_bfL mi 0 0 nC)) (k_op_s c88) ?_
        exact k_iret (pc := 91) C rfl  (k_fI (by unfold f_X7_picksBy; rw [if_neg c1_1, if_neg c1_2, if_neg c1_3, if_pos c1_4, if_pos c59, if_pos c88]; exact k_op_s c88)) dX7_picksBy_91
      · skip
        refine k_sx (x := -1) (k_op_n c88) ?_
        exact k_iret (pc := 91) C rfl  (k_fI (by unfold f_X7_picksBy; rw [if_neg c1_1, if_neg c1_2, if_neg c1_3, if_pos c1_4, if_pos c59, if_neg c88]; exact k_op_6)) dX7_picksBy_91
    · skip
      have hln : (mi (8, 15, 0) b).toNatClampNeg < nC := k_clamp (k_lastin hl c59)
      refine k_aload_n (pc := 62) C dX7_picksBy_62 rfl ?_
      refine k_getR (pc := 63) (r := some (8, 12, 0)) C fl_X7_38 k_in7 rfl rfl rfl dX7_picksBy_63 ?_
      refine k_aload_n (pc := 66) C dX7_picksBy_66 rfl ?_
      refine k_getR (pc := 67) (r := some (8, 15, 0)) C fl_X7_47 k_in7 rfl rfl rfl dX7_picksBy_67 ?_
      refine k_iload_n (pc := 70) C dX7_picksBy_70 rfl ?_
      refine k_ialdX (pc := 71) (j := b) C (nI_clamp (by omega)) (by decide +kernel) rfl (vp_in_nI (show _ < (6 : Nat) by omega) (show (6 : Nat) < 2 ^ 31 by decide)) dX7_picksBy_71 ?_
      refine k_sx (x := nI (mi (8, 15, 0) b).toNatClampNeg) (k_nat (k_lastin hl c59)) ?_
      refine k_ialdX (pc := 72) (j := (mi (8, 15, 0) b).toNatClampNeg) C (nI_clamp (by omega)) (by decide +kernel) rfl (vp_in_nI (show _ < (6 : Nat) by omega) (show (6 : Nat) < 2 ^ 31 by decide)) dX7_picksBy_72 ?_
      refine k_if_ne (pc := 73) C 85 dX7_picksBy_73 (by decide) (fun c73 => ?_) (fun c73 => ?_)
      · skip
        refine k_aload_n (pc := 85) C dX7_picksBy_85 rfl ?_
        refine k_iconst (pc := 86) (v := 0) C dX7_picksBy_86 (by decide) ?_
        refine k_iconst (pc := 87) (v := 0) C dX7_picksBy_87 (by decide) ?_
        refine k_call2 (pc := 88) C cv_X7_220 (ct_X7_bestFace hm (Or.inl rfl) (Or.inl rfl)) k_in7 rfl (by decide) rfl (Nat.le_of_ble_eq_true rfl) dX7_picksBy_88 ?_
        by_cases c88 : (f_X7_bfL mi 0 0 nC) < 6
        · skip
          refine k_sx (x := nI (f_X7_bfL mi 0 0 nC)) (k_op_s c88) ?_
          exact k_iret (pc := 91) C rfl  (k_fI (by unfold f_X7_picksBy; rw [if_neg c1_1, if_neg c1_2, if_neg c1_3, if_pos c1_4, if_neg c59, if_neg c73, if_pos c88]; exact k_op_s c88)) dX7_picksBy_91
        · skip
          refine k_sx (x := -1) (k_op_n c88) ?_
          exact k_iret (pc := 91) C rfl  (k_fI (by unfold f_X7_picksBy; rw [if_neg c1_1, if_neg c1_2, if_neg c1_3, if_pos c1_4, if_neg c59, if_neg c73, if_neg c88]; exact k_op_6)) dX7_picksBy_91
      · skip
        refine k_aload_n (pc := 76) C dX7_picksBy_76 rfl ?_
        refine k_getR (pc := 77) (r := some (8, 15, 0)) C fl_X7_47 k_in7 rfl rfl rfl dX7_picksBy_77 ?_
        refine k_iload_n (pc := 80) C dX7_picksBy_80 rfl ?_
        refine k_ialdX (pc := 81) (j := b) C (nI_clamp (by omega)) (by decide +kernel) rfl (vp_in_nI (show _ < (6 : Nat) by omega) (show (6 : Nat) < 2 ^ 31 by decide)) dX7_picksBy_81 ?_
        refine k_sx (x := nI (mi (8, 15, 0) b).toNatClampNeg) (k_nat (k_lastin hl c59)) ?_
        refine k_goto (pc := 82) C 91 dX7_picksBy_82 (by decide) ?_
        exact k_iret (pc := 91) C rfl  (k_fI (by unfold f_X7_picksBy; rw [if_neg c1_1, if_neg c1_2, if_neg c1_3, if_pos c1_4, if_neg c59, if_pos c73]; exact k_op_s (by first | assumption | omega))) dX7_picksBy_91
  refine k_tabOut (pc := 1) C 92 dX7_picksBy_1 (k_out 1 4 (fun v h1 h2 => by rcases (show v = 1 ∨ v = 2 ∨ v = 3 ∨ v = 4 by omega) with rfl | rfl | rfl | rfl <;> first | exact c1_1 | exact c1_2 | exact c1_3 | exact c1_4)) (by decide) ?_
  refine k_aload_n (pc := 92) C dX7_picksBy_92 rfl ?_
  refine k_iconst (pc := 93) (v := 0) C dX7_picksBy_93 (by decide) ?_
  refine k_iconst (pc := 94) (v := 0) C dX7_picksBy_94 (by decide) ?_
  refine k_call2 (pc := 95) C cv_X7_220 (ct_X7_bestFace hm (Or.inl rfl) (Or.inl rfl)) k_in7 rfl (by decide) rfl (Nat.le_of_ble_eq_true rfl) dX7_picksBy_95 ?_
  by_cases c95 : (f_X7_bfL mi 0 0 nC) < 6
  · skip
    refine k_sx (x := nI (f_X7_bfL mi 0 0 nC)) (k_op_s c95) ?_
    exact k_iret (pc := 98) C rfl  (k_fI (by unfold f_X7_picksBy; rw [if_neg c1_1, if_neg c1_2, if_neg c1_3, if_neg c1_4, if_pos c95]; exact k_op_s c95)) dX7_picksBy_98
  · skip
    refine k_sx (x := -1) (k_op_n c95) ?_
    exact k_iret (pc := 98) C rfl  (k_fI (by unfold f_X7_picksBy; rw [if_neg c1_1, if_neg c1_2, if_neg c1_3, if_neg c1_4, if_neg c95]; exact k_op_6)) dX7_picksBy_98
def f_X7_go2 (mi : MemI) (nC : Nat) : Nat → MemI
  | 0 => mi
  | j + 1 =>
    if ((f_X7_go2 mi nC j) (8, 17, 0) j) = 1 then k_ui (k_ui (f_X7_go2 mi nC j) (8, 37, 0) j (-1)) (8, 41, 0) j 0
    else if (f_X7_picksBy (k_ui (k_ui (f_X7_go2 mi nC j) (8, 37, 0) j (-1)) (8, 41, 0) j 0) j ((f_X7_go2 mi nC j) (8, 14, 0) j) nC) < 6 then if ((f_X7_go2 mi nC j) (8, 6, 0) (f_X7_picksBy (k_ui (k_ui (f_X7_go2 mi nC j) (8, 37, 0) j (-1)) (8, 41, 0) j 0) j ((f_X7_go2 mi nC j) (8, 14, 0) j) nC)) = 5 then if ((f_X7_go2 mi nC j) (8, 7, 0) (f_X7_picksBy (k_ui (k_ui (f_X7_go2 mi nC j) (8, 37, 0) j (-1)) (8, 41, 0) j 0) j ((f_X7_go2 mi nC j) (8, 14, 0) j) nC)) < ((f_X7_go2 mi nC j) (8, 13, 0) j) then if ((f_X7_go2 mi nC j) (8, 8, 0) (f_X7_picksBy (k_ui (k_ui (f_X7_go2 mi nC j) (8, 37, 0) j (-1)) (8, 41, 0) j 0) j ((f_X7_go2 mi nC j) (8, 14, 0) j) nC)) < (((f_X7_go2 mi nC j) (8, 39, 0) (f_X7_picksBy (k_ui (k_ui (f_X7_go2 mi nC j) (8, 37, 0) j (-1)) (8, 41, 0) j 0) j ((f_X7_go2 mi nC j) (8, 14, 0) j) nC)) + ((f_X7_go2 mi nC j) (8, 13, 0) j)) then k_ui (k_ui (k_ui (k_ui (k_ui (f_X7_go2 mi nC j) (8, 37, 0) j (-1)) (8, 41, 0) j 0) (8, 37, 0) j (nI (f_X7_picksBy (k_ui (k_ui (f_X7_go2 mi nC j) (8, 37, 0) j (-1)) (8, 41, 0) j 0) j ((f_X7_go2 mi nC j) (8, 14, 0) j) nC))) (8, 38, 0) (f_X7_picksBy (k_ui (k_ui (f_X7_go2 mi nC j) (8, 37, 0) j (-1)) (8, 41, 0) j 0) j ((f_X7_go2 mi nC j) (8, 14, 0) j) nC) (((f_X7_go2 mi nC j) (8, 38, 0) (f_X7_picksBy (k_ui (k_ui (f_X7_go2 mi nC j) (8, 37, 0) j (-1)) (8, 41, 0) j 0) j ((f_X7_go2 mi nC j) (8, 14, 0) j) nC)) + 1)) (7, 0, 0) 42 (((f_X7_go2 mi nC j) (7, 0, 0) 42) + 1)
            else k_ui (k_ui (k_ui (k_ui (k_ui (k_ui (k_ui (k_ui (k_ui (f_X7_go2 mi nC j) (8, 37, 0) j (-1)) (8, 41, 0) j 0) (8, 37, 0) j (nI (f_X7_picksBy (k_ui (k_ui (f_X7_go2 mi nC j) (8, 37, 0) j (-1)) (8, 41, 0) j 0) j ((f_X7_go2 mi nC j) (8, 14, 0) j) nC))) (8, 38, 0) (f_X7_picksBy (k_ui (k_ui (f_X7_go2 mi nC j) (8, 37, 0) j (-1)) (8, 41, 0) j 0) j ((f_X7_go2 mi nC j) (8, 14, 0) j) nC) (((f_X7_go2 mi nC j) (8, 38, 0) (f_X7_picksBy (k_ui (k_ui (f_X7_go2 mi nC j) (8, 37, 0) j (-1)) (8, 41, 0) j 0) j ((f_X7_go2 mi nC j) (8, 14, 0) j) nC)) + 1)) (8, 41, 0) j 1) (7, 0, 0) 43 (((f_X7_go2 mi nC j) (7, 0, 0) 43) + (1 <<< ((nI j) &&& 31)))) (8, 40, 0) (f_X7_picksBy (k_ui (k_ui (f_X7_go2 mi nC j) (8, 37, 0) j (-1)) (8, 41, 0) j 0) j ((f_X7_go2 mi nC j) (8, 14, 0) j) nC) (((f_X7_go2 mi nC j) (8, 40, 0) (f_X7_picksBy (k_ui (k_ui (f_X7_go2 mi nC j) (8, 37, 0) j (-1)) (8, 41, 0) j 0) j ((f_X7_go2 mi nC j) (8, 14, 0) j) nC)) + ((f_X7_go2 mi nC j) (8, 13, 0) j))) (8, 39, 0) (f_X7_picksBy (k_ui (k_ui (f_X7_go2 mi nC j) (8, 37, 0) j (-1)) (8, 41, 0) j 0) j ((f_X7_go2 mi nC j) (8, 14, 0) j) nC) (((f_X7_go2 mi nC j) (8, 39, 0) (f_X7_picksBy (k_ui (k_ui (f_X7_go2 mi nC j) (8, 37, 0) j (-1)) (8, 41, 0) j 0) j ((f_X7_go2 mi nC j) (8, 14, 0) j) nC)) + ((f_X7_go2 mi nC j) (8, 13, 0) j))) (7, 0, 0) 42 (((f_X7_go2 mi nC j) (7, 0, 0) 42) + 0)
          else k_ui (k_ui (k_ui (k_ui (k_ui (k_ui (k_ui (k_ui (f_X7_go2 mi nC j) (8, 37, 0) j (-1)) (8, 41, 0) j 0) (8, 37, 0) j (nI (f_X7_picksBy (k_ui (k_ui (f_X7_go2 mi nC j) (8, 37, 0) j (-1)) (8, 41, 0) j 0) j ((f_X7_go2 mi nC j) (8, 14, 0) j) nC))) (8, 38, 0) (f_X7_picksBy (k_ui (k_ui (f_X7_go2 mi nC j) (8, 37, 0) j (-1)) (8, 41, 0) j 0) j ((f_X7_go2 mi nC j) (8, 14, 0) j) nC) (((f_X7_go2 mi nC j) (8, 38, 0) (f_X7_picksBy (k_ui (k_ui (f_X7_go2 mi nC j) (8, 37, 0) j (-1)) (8, 41, 0) j 0) j ((f_X7_go2 mi nC j) (8, 14, 0) j) nC)) + 1)) (8, 41, 0) j 1) (7, 0, 0) 43 (((f_X7_go2 mi nC j) (7, 0, 0) 43) + (1 <<< ((nI j) &&& 31)))) (8, 40, 0) (f_X7_picksBy (k_ui (k_ui (f_X7_go2 mi nC j) (8, 37, 0) j (-1)) (8, 41, 0) j 0) j ((f_X7_go2 mi nC j) (8, 14, 0) j) nC) (((f_X7_go2 mi nC j) (8, 40, 0) (f_X7_picksBy (k_ui (k_ui (f_X7_go2 mi nC j) (8, 37, 0) j (-1)) (8, 41, 0) j 0) j ((f_X7_go2 mi nC j) (8, 14, 0) j) nC)) + ((f_X7_go2 mi nC j) (8, 13, 0) j))) (7, 0, 0) 42 (((f_X7_go2 mi nC j) (7, 0, 0) 42) + 0)
        else if ((f_X7_go2 mi nC j) (8, 8, 0) (f_X7_picksBy (k_ui (k_ui (f_X7_go2 mi nC j) (8, 37, 0) j (-1)) (8, 41, 0) j 0) j ((f_X7_go2 mi nC j) (8, 14, 0) j) nC)) < (((f_X7_go2 mi nC j) (8, 39, 0) (f_X7_picksBy (k_ui (k_ui (f_X7_go2 mi nC j) (8, 37, 0) j (-1)) (8, 41, 0) j 0) j ((f_X7_go2 mi nC j) (8, 14, 0) j) nC)) + ((f_X7_go2 mi nC j) (8, 13, 0) j)) then k_ui (k_ui (k_ui (k_ui (k_ui (f_X7_go2 mi nC j) (8, 37, 0) j (-1)) (8, 41, 0) j 0) (8, 37, 0) j (nI (f_X7_picksBy (k_ui (k_ui (f_X7_go2 mi nC j) (8, 37, 0) j (-1)) (8, 41, 0) j 0) j ((f_X7_go2 mi nC j) (8, 14, 0) j) nC))) (8, 38, 0) (f_X7_picksBy (k_ui (k_ui (f_X7_go2 mi nC j) (8, 37, 0) j (-1)) (8, 41, 0) j 0) j ((f_X7_go2 mi nC j) (8, 14, 0) j) nC) (((f_X7_go2 mi nC j) (8, 38, 0) (f_X7_picksBy (k_ui (k_ui (f_X7_go2 mi nC j) (8, 37, 0) j (-1)) (8, 41, 0) j 0) j ((f_X7_go2 mi nC j) (8, 14, 0) j) nC)) + 1)) (7, 0, 0) 42 (((f_X7_go2 mi nC j) (7, 0, 0) 42) + 1)
          else k_ui (k_ui (k_ui (k_ui (k_ui (k_ui (k_ui (k_ui (k_ui (f_X7_go2 mi nC j) (8, 37, 0) j (-1)) (8, 41, 0) j 0) (8, 37, 0) j (nI (f_X7_picksBy (k_ui (k_ui (f_X7_go2 mi nC j) (8, 37, 0) j (-1)) (8, 41, 0) j 0) j ((f_X7_go2 mi nC j) (8, 14, 0) j) nC))) (8, 38, 0) (f_X7_picksBy (k_ui (k_ui (f_X7_go2 mi nC j) (8, 37, 0) j (-1)) (8, 41, 0) j 0) j ((f_X7_go2 mi nC j) (8, 14, 0) j) nC) (((f_X7_go2 mi nC j) (8, 38, 0) (f_X7_picksBy (k_ui (k_ui (f_X7_go2 mi nC j) (8, 37, 0) j (-1)) (8, 41, 0) j 0) j ((f_X7_go2 mi nC j) (8, 14, 0) j) nC)) + 1)) (8, 41, 0) j 1) (7, 0, 0) 43 (((f_X7_go2 mi nC j) (7, 0, 0) 43) + (1 <<< ((nI j) &&& 31)))) (8, 40, 0) (f_X7_picksBy (k_ui (k_ui (f_X7_go2 mi nC j) (8, 37, 0) j (-1)) (8, 41, 0) j 0) j ((f_X7_go2 mi nC j) (8, 14, 0) j) nC) (((f_X7_go2 mi nC j) (8, 40, 0) (f_X7_picksBy (k_ui (k_ui (f_X7_go2 mi nC j) (8, 37, 0) j (-1)) (8, 41, 0) j 0) j ((f_X7_go2 mi nC j) (8, 14, 0) j) nC)) + ((f_X7_go2 mi nC j) (8, 13, 0) j))) (8, 39, 0) (f_X7_picksBy (k_ui (k_ui (f_X7_go2 mi nC j) (8, 37, 0) j (-1)) (8, 41, 0) j 0) j ((f_X7_go2 mi nC j) (8, 14, 0) j) nC) (((f_X7_go2 mi nC j) (8, 39, 0) (f_X7_picksBy (k_ui (k_ui (f_X7_go2 mi nC j) (8, 37, 0) j (-1)) (8, 41, 0) j 0) j ((f_X7_go2 mi nC j) (8, 14, 0) j) nC)) + ((f_X7_go2 mi nC j) (8, 13, 0) j))) (7, 0, 0) 42 (((f_X7_go2 mi nC j) (7, 0, 0) 42) + 0)
      else k_ui (k_ui (k_ui (k_ui (f_X7_go2 mi nC j) (8, 37, 0) j (-1)) (8, 41, 0) j 0) (8, 37, 0) j (-1)) (7, 0, 0) 42 (((f_X7_go2 mi nC j) (7, 0, 0) 42) + 1)
theorem f_X7_go2_s (mi : MemI) (nC : Nat) (j : Nat) : f_X7_go2 mi nC (j + 1) =
    if ((f_X7_go2 mi nC j) (8, 17, 0) j) = 1 then k_ui (k_ui (f_X7_go2 mi nC j) (8, 37, 0) j (-1)) (8, 41, 0) j 0
    else if (f_X7_picksBy (k_ui (k_ui (f_X7_go2 mi nC j) (8, 37, 0) j (-1)) (8, 41, 0) j 0) j ((f_X7_go2 mi nC j) (8, 14, 0) j) nC) < 6 then if ((f_X7_go2 mi nC j) (8, 6, 0) (f_X7_picksBy (k_ui (k_ui (f_X7_go2 mi nC j) (8, 37, 0) j (-1)) (8, 41, 0) j 0) j ((f_X7_go2 mi nC j) (8, 14, 0) j) nC)) = 5 then if ((f_X7_go2 mi nC j) (8, 7, 0) (f_X7_picksBy (k_ui (k_ui (f_X7_go2 mi nC j) (8, 37, 0) j (-1)) (8, 41, 0) j 0) j ((f_X7_go2 mi nC j) (8, 14, 0) j) nC)) < ((f_X7_go2 mi nC j) (8, 13, 0) j) then if ((f_X7_go2 mi nC j) (8, 8, 0) (f_X7_picksBy (k_ui (k_ui (f_X7_go2 mi nC j) (8, 37, 0) j (-1)) (8, 41, 0) j 0) j ((f_X7_go2 mi nC j) (8, 14, 0) j) nC)) < (((f_X7_go2 mi nC j) (8, 39, 0) (f_X7_picksBy (k_ui (k_ui (f_X7_go2 mi nC j) (8, 37, 0) j (-1)) (8, 41, 0) j 0) j ((f_X7_go2 mi nC j) (8, 14, 0) j) nC)) + ((f_X7_go2 mi nC j) (8, 13, 0) j)) then k_ui (k_ui (k_ui (k_ui (k_ui (f_X7_go2 mi nC j) (8, 37, 0) j (-1)) (8, 41, 0) j 0) (8, 37, 0) j (nI (f_X7_picksBy (k_ui (k_ui (f_X7_go2 mi nC j) (8, 37, 0) j (-1)) (8, 41, 0) j 0) j ((f_X7_go2 mi nC j) (8, 14, 0) j) nC))) (8, 38, 0) (f_X7_picksBy (k_ui (k_ui (f_X7_go2 mi nC j) (8, 37, 0) j (-1)) (8, 41, 0) j 0) j ((f_X7_go2 mi nC j) (8, 14, 0) j) nC) (((f_X7_go2 mi nC j) (8, 38, 0) (f_X7_picksBy (k_ui (k_ui (f_X7_go2 mi nC j) (8, 37, 0) j (-1)) (8, 41, 0) j 0) j ((f_X7_go2 mi nC j) (8, 14, 0) j) nC)) + 1)) (7, 0, 0) 42 (((f_X7_go2 mi nC j) (7, 0, 0) 42) + 1)
            else k_ui (k_ui (k_ui (k_ui (k_ui (k_ui (k_ui (k_ui (k_ui (f_X7_go2 mi nC j) (8, 37, 0) j (-1)) (8, 41, 0) j 0) (8, 37, 0) j (nI (f_X7_picksBy (k_ui (k_ui (f_X7_go2 mi nC j) (8, 37, 0) j (-1)) (8, 41, 0) j 0) j ((f_X7_go2 mi nC j) (8, 14, 0) j) nC))) (8, 38, 0) (f_X7_picksBy (k_ui (k_ui (f_X7_go2 mi nC j) (8, 37, 0) j (-1)) (8, 41, 0) j 0) j ((f_X7_go2 mi nC j) (8, 14, 0) j) nC) (((f_X7_go2 mi nC j) (8, 38, 0) (f_X7_picksBy (k_ui (k_ui (f_X7_go2 mi nC j) (8, 37, 0) j (-1)) (8, 41, 0) j 0) j ((f_X7_go2 mi nC j) (8, 14, 0) j) nC)) + 1)) (8, 41, 0) j 1) (7, 0, 0) 43 (((f_X7_go2 mi nC j) (7, 0, 0) 43) + (1 <<< ((nI j) &&& 31)))) (8, 40, 0) (f_X7_picksBy (k_ui (k_ui (f_X7_go2 mi nC j) (8, 37, 0) j (-1)) (8, 41, 0) j 0) j ((f_X7_go2 mi nC j) (8, 14, 0) j) nC) (((f_X7_go2 mi nC j) (8, 40, 0) (f_X7_picksBy (k_ui (k_ui (f_X7_go2 mi nC j) (8, 37, 0) j (-1)) (8, 41, 0) j 0) j ((f_X7_go2 mi nC j) (8, 14, 0) j) nC)) + ((f_X7_go2 mi nC j) (8, 13, 0) j))) (8, 39, 0) (f_X7_picksBy (k_ui (k_ui (f_X7_go2 mi nC j) (8, 37, 0) j (-1)) (8, 41, 0) j 0) j ((f_X7_go2 mi nC j) (8, 14, 0) j) nC) (((f_X7_go2 mi nC j) (8, 39, 0) (f_X7_picksBy (k_ui (k_ui (f_X7_go2 mi nC j) (8, 37, 0) j (-1)) (8, 41, 0) j 0) j ((f_X7_go2 mi nC j) (8, 14, 0) j) nC)) + ((f_X7_go2 mi nC j) (8, 13, 0) j))) (7, 0, 0) 42 (((f_X7_go2 mi nC j) (7, 0, 0) 42) + 0)
          else k_ui (k_ui (k_ui (k_ui (k_ui (k_ui (k_ui (k_ui (f_X7_go2 mi nC j) (8, 37, 0) j (-1)) (8, 41, 0) j 0) (8, 37, 0) j (nI (f_X7_picksBy (k_ui (k_ui (f_X7_go2 mi nC j) (8, 37, 0) j (-1)) (8, 41, 0) j 0) j ((f_X7_go2 mi nC j) (8, 14, 0) j) nC))) (8, 38, 0) (f_X7_picksBy (k_ui (k_ui (f_X7_go2 mi nC j) (8, 37, 0) j (-1)) (8, 41, 0) j 0) j ((f_X7_go2 mi nC j) (8, 14, 0) j) nC) (((f_X7_go2 mi nC j) (8, 38, 0) (f_X7_picksBy (k_ui (k_ui (f_X7_go2 mi nC j) (8, 37, 0) j (-1)) (8, 41, 0) j 0) j ((f_X7_go2 mi nC j) (8, 14, 0) j) nC)) + 1)) (8, 41, 0) j 1) (7, 0, 0) 43 (((f_X7_go2 mi nC j) (7, 0, 0) 43) + (1 <<< ((nI j) &&& 31)))) (8, 40, 0) (f_X7_picksBy (k_ui (k_ui (f_X7_go2 mi nC j) (8, 37, 0) j (-1)) (8, 41, 0) j 0) j ((f_X7_go2 mi nC j) (8, 14, 0) j) nC) (((f_X7_go2 mi nC j) (8, 40, 0) (f_X7_picksBy (k_ui (k_ui (f_X7_go2 mi nC j) (8, 37, 0) j (-1)) (8, 41, 0) j 0) j ((f_X7_go2 mi nC j) (8, 14, 0) j) nC)) + ((f_X7_go2 mi nC j) (8, 13, 0) j))) (7, 0, 0) 42 (((f_X7_go2 mi nC j) (7, 0, 0) 42) + 0)
        else if ((f_X7_go2 mi nC j) (8, 8, 0) (f_X7_picksBy (k_ui (k_ui (f_X7_go2 mi nC j) (8, 37, 0) j (-1)) (8, 41, 0) j 0) j ((f_X7_go2 mi nC j) (8, 14, 0) j) nC)) < (((f_X7_go2 mi nC j) (8, 39, 0) (f_X7_picksBy (k_ui (k_ui (f_X7_go2 mi nC j) (8, 37, 0) j (-1)) (8, 41, 0) j 0) j ((f_X7_go2 mi nC j) (8, 14, 0) j) nC)) + ((f_X7_go2 mi nC j) (8, 13, 0) j)) then k_ui (k_ui (k_ui (k_ui (k_ui (f_X7_go2 mi nC j) (8, 37, 0) j (-1)) (8, 41, 0) j 0) (8, 37, 0) j (nI (f_X7_picksBy (k_ui (k_ui (f_X7_go2 mi nC j) (8, 37, 0) j (-1)) (8, 41, 0) j 0) j ((f_X7_go2 mi nC j) (8, 14, 0) j) nC))) (8, 38, 0) (f_X7_picksBy (k_ui (k_ui (f_X7_go2 mi nC j) (8, 37, 0) j (-1)) (8, 41, 0) j 0) j ((f_X7_go2 mi nC j) (8, 14, 0) j) nC) (((f_X7_go2 mi nC j) (8, 38, 0) (f_X7_picksBy (k_ui (k_ui (f_X7_go2 mi nC j) (8, 37, 0) j (-1)) (8, 41, 0) j 0) j ((f_X7_go2 mi nC j) (8, 14, 0) j) nC)) + 1)) (7, 0, 0) 42 (((f_X7_go2 mi nC j) (7, 0, 0) 42) + 1)
          else k_ui (k_ui (k_ui (k_ui (k_ui (k_ui (k_ui (k_ui (k_ui (f_X7_go2 mi nC j) (8, 37, 0) j (-1)) (8, 41, 0) j 0) (8, 37, 0) j (nI (f_X7_picksBy (k_ui (k_ui (f_X7_go2 mi nC j) (8, 37, 0) j (-1)) (8, 41, 0) j 0) j ((f_X7_go2 mi nC j) (8, 14, 0) j) nC))) (8, 38, 0) (f_X7_picksBy (k_ui (k_ui (f_X7_go2 mi nC j) (8, 37, 0) j (-1)) (8, 41, 0) j 0) j ((f_X7_go2 mi nC j) (8, 14, 0) j) nC) (((f_X7_go2 mi nC j) (8, 38, 0) (f_X7_picksBy (k_ui (k_ui (f_X7_go2 mi nC j) (8, 37, 0) j (-1)) (8, 41, 0) j 0) j ((f_X7_go2 mi nC j) (8, 14, 0) j) nC)) + 1)) (8, 41, 0) j 1) (7, 0, 0) 43 (((f_X7_go2 mi nC j) (7, 0, 0) 43) + (1 <<< ((nI j) &&& 31)))) (8, 40, 0) (f_X7_picksBy (k_ui (k_ui (f_X7_go2 mi nC j) (8, 37, 0) j (-1)) (8, 41, 0) j 0) j ((f_X7_go2 mi nC j) (8, 14, 0) j) nC) (((f_X7_go2 mi nC j) (8, 40, 0) (f_X7_picksBy (k_ui (k_ui (f_X7_go2 mi nC j) (8, 37, 0) j (-1)) (8, 41, 0) j 0) j ((f_X7_go2 mi nC j) (8, 14, 0) j) nC)) + ((f_X7_go2 mi nC j) (8, 13, 0) j))) (8, 39, 0) (f_X7_picksBy (k_ui (k_ui (f_X7_go2 mi nC j) (8, 37, 0) j (-1)) (8, 41, 0) j 0) j ((f_X7_go2 mi nC j) (8, 14, 0) j) nC) (((f_X7_go2 mi nC j) (8, 39, 0) (f_X7_picksBy (k_ui (k_ui (f_X7_go2 mi nC j) (8, 37, 0) j (-1)) (8, 41, 0) j 0) j ((f_X7_go2 mi nC j) (8, 14, 0) j) nC)) + ((f_X7_go2 mi nC j) (8, 13, 0) j))) (7, 0, 0) 42 (((f_X7_go2 mi nC j) (7, 0, 0) 42) + 0)
      else k_ui (k_ui (k_ui (k_ui (f_X7_go2 mi nC j) (8, 37, 0) j (-1)) (8, 41, 0) j 0) (8, 37, 0) j (-1)) (7, 0, 0) 42 (((f_X7_go2 mi nC j) (7, 0, 0) 42) + 1) := rfl
theorem mo_go2 {nC nB : Nat} {mi : MemI} (h : k_mo nC nB mi) : ∀ j, k_mo nC nB (f_X7_go2 mi nC j) := by
  intro j
  induction j with
  | zero => exact h
  | succ j ih =>
    rw [f_X7_go2_s]
    repeat' split
    all_goals repeat' first | exact ih | refine k_mo_ui ?_ (by simp) (by simp)
def f_X7_go1 (mi : MemI) : Nat → MemI
  | 0 => mi
  | j + 1 =>
    k_ui (k_ui (k_ui (k_ui (f_X7_go1 mi j) (8, 36, 0) j (f_X7_face (f_X7_go1 mi j) (nI j))) (8, 38, 0) j 0) (8, 39, 0) j 0) (8, 40, 0) j 0
theorem f_X7_go1_s (mi : MemI) (j : Nat) : f_X7_go1 mi (j + 1) =
    k_ui (k_ui (k_ui (k_ui (f_X7_go1 mi j) (8, 36, 0) j (f_X7_face (f_X7_go1 mi j) (nI j))) (8, 38, 0) j 0) (8, 39, 0) j 0) (8, 40, 0) j 0 := rfl
theorem mo_go1 {nC nB : Nat} {mi : MemI} (h : k_mo nC nB mi) : ∀ j, k_mo nC nB (f_X7_go1 mi j) := by
  intro j
  induction j with
  | zero => exact h
  | succ j ih =>
    rw [f_X7_go1_s]
    exact k_mo_ui (k_mo_ui (k_mo_ui (k_mo_ui ih (by simp) (by simp)) (by simp) (by simp)) (by simp) (by simp)) (by simp) (by simp)
def f_X7_goes (mi : MemI) (nC : Nat) (nB : Nat) : MemI :=
  (f_X7_go2 (f_X7_go1 (k_ui (k_ui mi (7, 0, 0) 42 0) (7, 0, 0) 43 0) nC) nC nB)
set_option maxRecDepth 100000 in
set_option maxHeartbeats 4000000 in
theorem ct_X7_goes {mi : MemI} {ml : MemL} {nC : Nat} {nB : Nat} (hm : k_mo nC nB mi) : k_Ct k_KS k_R0 Mt_X7_goes 2 [vR (7, 0, 0)] mi ml (k_rt none (f_X7_goes mi nC nB) ml) := by
  refine k_ofV (L0 := [vR (7, 0, 0), vU, vU, vU]) (by decide +kernel) (Nat.le_of_ble_eq_true rfl) rfl rfl ?_
  intro p l e s m args below meth c D cy ad bs C
  have hC := hm.1
  have h6 := hm.2.1
  have hB := hm.2.2.1
  have h6b := hm.2.2.2.1
  refine k_aload_n (pc := 0) C dX7_goes_0 rfl ?_
  refine k_iconst (pc := 1) (v := 0) C dX7_goes_1 (by decide) ?_
  refine k_putI (pc := 2) C pl_X7_227 k_in7 rfl rfl dX7_goes_2 ?_
  refine k_aload_n (pc := 5) C dX7_goes_5 rfl ?_
  refine k_iconst (pc := 6) (v := 0) C dX7_goes_6 (by decide) ?_
  refine k_putI (pc := 7) C pl_X7_230 k_in7 rfl rfl dX7_goes_7 ?_
  refine k_iconst (pc := 10) (v := 0) C dX7_goes_10 (by decide) ?_
  refine k_istore_1 (pc := 11) C dX7_goes_11 rfl ?_
  refine k_cast (L' := [vR (7, 0, 0), vI (nI 0), vU, vU]) (mi' := f_X7_go1 (k_ui (k_ui mi (7, 0, 0) 42 0) (7, 0, 0) 43 0) 0) (ml' := ml) rfl rfl rfl ?_
  refine k_down (P := fun j => k_V p l e (k_rm 2) s m args below meth c D cy ad bs k_KS k_R0 0 0 (k_End below D cy ad bs k_KS k_R0 (k_rt none (f_X7_goes mi nC nB) ml) args s) (f_X7_go1 (k_ui (k_ui mi (7, 0, 0) 42 0) (7, 0, 0) 43 0) j) ml 12 [vR (7, 0, 0), vI (nI j), vU, vU] []) nC ?_ (fun j hj hk => ?_)
  · skip
    have hmj : k_mo nC nB (f_X7_go1 (k_ui (k_ui mi (7, 0, 0) 42 0) (7, 0, 0) 43 0) nC) := mo_go1 (k_mo_ui (k_mo_ui hm (by simp) (by simp)) (by simp) (by simp)) nC
    refine k_iload_n (pc := 12) C dX7_goes_12 rfl ?_
    refine k_aload_n (pc := 13) C dX7_goes_13 rfl ?_
    refine k_getI (pc := 14) C fl_X7_129 k_in7 rfl rfl dX7_goes_14 ?_
    refine k_icmp_geT (pc := 17) C 58 dX7_goes_17 (by decide) (k_leC hmj.1) ?_
    refine k_iconst (pc := 58) (v := 0) C dX7_goes_58 (by decide) ?_
    refine k_istore_1 (pc := 59) C dX7_goes_59 rfl ?_
    refine k_cast (L' := [vR (7, 0, 0), vI (nI 0), vU, vU]) (mi' := f_X7_go2 (f_X7_go1 (k_ui (k_ui mi (7, 0, 0) 42 0) (7, 0, 0) 43 0) nC) nC 0) (ml' := ml) rfl rfl rfl ?_
    refine k_down (P := fun j => k_V p l e (k_rm 2) s m args below meth c D cy ad bs k_KS k_R0 0 0 (k_End below D cy ad bs k_KS k_R0 (k_rt none (f_X7_goes mi nC nB) ml) args s) (f_X7_go2 (f_X7_go1 (k_ui (k_ui mi (7, 0, 0) 42 0) (7, 0, 0) 43 0) nC) nC j) ml 60 [vR (7, 0, 0), vI (nI j), vU, vU] []) nB ?_ (fun j hj hk => ?_)
    · skip
      have hmj : k_mo nC nB (f_X7_go2 (f_X7_go1 (k_ui (k_ui mi (7, 0, 0) 42 0) (7, 0, 0) 43 0) nC) nC nB) := mo_go2 (mo_go1 (k_mo_ui (k_mo_ui hm (by simp) (by simp)) (by simp) (by simp)) nC) nB
      refine k_iload_n (pc := 60) C dX7_goes_60 rfl ?_
      refine k_aload_n (pc := 61) C dX7_goes_61 rfl ?_
      refine k_getI (pc := 62) C fl_X7_132 k_in7 rfl rfl dX7_goes_62 ?_
      refine k_icmp_geT (pc := 65) C 262 dX7_goes_65 (by decide) (k_leC hmj.2.2.1) ?_
      exact k_vret (pc := 262) C rfl (k_fm (by unfold f_X7_goes; try rfl)) dX7_goes_262
    · skip
      try dsimp only at hk
      have hmj : k_mo nC nB (f_X7_go2 (f_X7_go1 (k_ui (k_ui mi (7, 0, 0) 42 0) (7, 0, 0) 43 0) nC) nC j) := mo_go2 (mo_go1 (k_mo_ui (k_mo_ui hm (by simp) (by simp)) (by simp) (by simp)) nC) j
      refine k_iload_n (pc := 60) C dX7_goes_60 rfl ?_
      refine k_aload_n (pc := 61) C dX7_goes_61 rfl ?_
      refine k_getI (pc := 62) C fl_X7_132 k_in7 rfl rfl dX7_goes_62 ?_
      refine k_icmp_geF (pc := 65) C 262 dX7_goes_65 (by decide) (k_ngeC hmj.2.2.1 h6b hj) ?_
      refine k_aload_n (pc := 68) C dX7_goes_68 rfl ?_
      refine k_getR (pc := 69) (r := some (8, 37, 0)) C fl_X7_99 k_in7 rfl rfl rfl dX7_goes_69 ?_
      refine k_iload_n (pc := 72) C dX7_goes_72 rfl ?_
      refine k_iconst (pc := 73) (v := (-1)) C dX7_goes_73 (by decide) ?_
      refine k_iastX (pc := 74) (j := j) C (nI_clamp (by omega)) (by decide +kernel) rfl (vp_in_nI (show _ < (6 : Nat) by omega) (show (6 : Nat) < 2 ^ 31 by decide)) dX7_goes_74 ?_
      refine k_aload_n (pc := 75) C dX7_goes_75 rfl ?_
      refine k_getR (pc := 76) (r := some (8, 41, 0)) C fl_X7_111 k_in7 rfl rfl rfl dX7_goes_76 ?_
      refine k_iload_n (pc := 79) C dX7_goes_79 rfl ?_
      refine k_iconst (pc := 80) (v := 0) C dX7_goes_80 (by decide) ?_
      refine k_iastX (pc := 81) (j := j) C (nI_clamp (by omega)) (by decide +kernel) rfl (vp_in_nI (show _ < (6 : Nat) by omega) (show (6 : Nat) < 2 ^ 31 by decide)) dX7_goes_81 ?_
      refine k_aload_n (pc := 82) C dX7_goes_82 rfl ?_
      refine k_getR (pc := 83) (r := some (8, 17, 0)) C fl_X7_53 k_in7 rfl rfl rfl dX7_goes_83 ?_
      refine k_iload_n (pc := 86) C dX7_goes_86 rfl ?_
      refine k_ialdX (pc := 87) (j := j) C (nI_clamp (by omega)) (by decide +kernel) rfl (vp_in_nI (show _ < (6 : Nat) by omega) (show (6 : Nat) < 2 ^ 31 by decide)) dX7_goes_87 ?_
      refine k_sx (x := (f_X7_go2 (f_X7_go1 (k_ui (k_ui mi (7, 0, 0) 42 0) (7, 0, 0) 43 0) nC) nC j) (8, 17, 0) j) (Eq.trans (k_uk (by decide)) (k_uk (by decide))) ?_
      refine k_iconst (pc := 88) (v := 1) C dX7_goes_88 (by decide) ?_
      refine k_icmp_ne (pc := 89) C 95 dX7_goes_89 (by decide) (fun c89 => ?_) (fun c89 => ?_)
      · skip
        refine k_aload_n (pc := 95) C dX7_goes_95 rfl ?_
        refine k_iload_n (pc := 96) C dX7_goes_96 rfl ?_
        refine k_aload_n (pc := 97) C dX7_goes_97 rfl ?_
        refine k_getR (pc := 98) (r := some (8, 14, 0)) C fl_X7_44 k_in7 rfl rfl rfl dX7_goes_98 ?_
        refine k_iload_n (pc := 101) C dX7_goes_101 rfl ?_
        refine k_ialdX (pc := 102) (j := j) C (nI_clamp (by omega)) (by decide +kernel) rfl (vp_in_nI (show _ < (6 : Nat) by omega) (show (6 : Nat) < 2 ^ 31 by decide)) dX7_goes_102 ?_
        refine k_sx (x := (f_X7_go2 (f_X7_go1 (k_ui (k_ui mi (7, 0, 0) 42 0) (7, 0, 0) 43 0) nC) nC j) (8, 14, 0) j) (Eq.trans (k_uk (by decide)) (k_uk (by decide))) ?_
        refine k_call2 (pc := 103) C cv_X7_233 (ct_X7_picksBy (k_mo_ui (k_mo_ui hmj (by simp) (by simp)) (by simp) (by simp)) (by omega)) k_in7 rfl (by decide) rfl (Nat.le_of_ble_eq_true rfl) dX7_goes_103 ?_
        by_cases c103 : (f_X7_picksBy (k_ui (k_ui (f_X7_go2 (f_X7_go1 (k_ui (k_ui mi (7, 0, 0) 42 0) (7, 0, 0) 43 0) nC) nC j) (8, 37, 0) j (-1)) (8, 41, 0) j 0) j ((f_X7_go2 (f_X7_go1 (k_ui (k_ui mi (7, 0, 0) 42 0) (7, 0, 0) 43 0) nC) nC j) (8, 14, 0) j) nC) < 6
        · skip
          refine k_sx (x := nI (f_X7_picksBy (k_ui (k_ui (f_X7_go2 (f_X7_go1 (k_ui (k_ui mi (7, 0, 0) 42 0) (7, 0, 0) 43 0) nC) nC j) (8, 37, 0) j (-1)) (8, 41, 0) j 0) j ((f_X7_go2 (f_X7_go1 (k_ui (k_ui mi (7, 0, 0) 42 0) (7, 0, 0) 43 0) nC) nC j) (8, 14, 0) j) nC)) (k_op_s c103) ?_
          refine k_istore_2 (pc := 106) C dX7_goes_106 rfl ?_
          refine k_aload_n (pc := 107) C dX7_goes_107 rfl ?_
          refine k_getR (pc := 108) (r := some (8, 37, 0)) C fl_X7_99 k_in7 rfl rfl rfl dX7_goes_108 ?_
          refine k_iload_n (pc := 111) C dX7_goes_111 rfl ?_
          refine k_iload_n (pc := 112) C dX7_goes_112 rfl ?_
          refine k_iastX (pc := 113) (j := j) C (nI_clamp (by omega)) (by decide +kernel) rfl (vp_in_nI (show _ < (6 : Nat) by omega) (show (6 : Nat) < 2 ^ 31 by decide)) dX7_goes_113 ?_
          refine k_iload_n (pc := 114) C dX7_goes_114 rfl ?_
          refine k_iconst (pc := 115) (v := (-1)) C dX7_goes_115 (by decide) ?_
          refine k_icmp_eqF (pc := 116) C 239 dX7_goes_116 (by decide) (k_nIne (by first | assumption | omega)) ?_
          refine k_aload_n (pc := 119) C dX7_goes_119 rfl ?_
          refine k_getR (pc := 120) (r := some (8, 38, 0)) C fl_X7_102 k_in7 rfl rfl rfl dX7_goes_120 ?_
          refine k_iload_n (pc := 123) C dX7_goes_123 rfl ?_
          refine k_dup2 (pc := 124) C dX7_goes_124 rfl rfl ?_
          refine k_ialdX (pc := 125) (j := (f_X7_picksBy (k_ui (k_ui (f_X7_go2 (f_X7_go1 (k_ui (k_ui mi (7, 0, 0) 42 0) (7, 0, 0) 43 0) nC) nC j) (8, 37, 0) j (-1)) (8, 41, 0) j 0) j ((f_X7_go2 (f_X7_go1 (k_ui (k_ui mi (7, 0, 0) 42 0) (7, 0, 0) 43 0) nC) nC j) (8, 14, 0) j) nC)) C (nI_clamp (by omega)) (by decide +kernel) rfl (vp_in_nI (show _ < (6 : Nat) by omega) (show (6 : Nat) < 2 ^ 31 by decide)) dX7_goes_125 ?_
          refine k_sx (x := (f_X7_go2 (f_X7_go1 (k_ui (k_ui mi (7, 0, 0) 42 0) (7, 0, 0) 43 0) nC) nC j) (8, 38, 0) (f_X7_picksBy (k_ui (k_ui (f_X7_go2 (f_X7_go1 (k_ui (k_ui mi (7, 0, 0) 42 0) (7, 0, 0) 43 0) nC) nC j) (8, 37, 0) j (-1)) (8, 41, 0) j 0) j ((f_X7_go2 (f_X7_go1 (k_ui (k_ui mi (7, 0, 0) 42 0) (7, 0, 0) 43 0) nC) nC j) (8, 14, 0) j) nC)) (Eq.trans (k_uk (by decide)) (Eq.trans (k_uk (by decide)) (k_uk (by decide)))) ?_
          refine k_iconst (pc := 126) (v := 1) C dX7_goes_126 (by decide) ?_
          refine k_iadd (pc := 127) C dX7_goes_127 ?_
          refine k_iastX (pc := 128) (j := (f_X7_picksBy (k_ui (k_ui (f_X7_go2 (f_X7_go1 (k_ui (k_ui mi (7, 0, 0) 42 0) (7, 0, 0) 43 0) nC) nC j) (8, 37, 0) j (-1)) (8, 41, 0) j 0) j ((f_X7_go2 (f_X7_go1 (k_ui (k_ui mi (7, 0, 0) 42 0) (7, 0, 0) 43 0) nC) nC j) (8, 14, 0) j) nC)) C (nI_clamp (by omega)) (by decide +kernel) rfl (vp_in_nI (show _ < (6 : Nat) by omega) (show (6 : Nat) < 2 ^ 31 by decide)) dX7_goes_128 ?_
          refine k_aload_n (pc := 129) C dX7_goes_129 rfl ?_
          refine k_getR (pc := 130) (r := some (8, 6, 0)) C fl_X7_20 k_in7 rfl rfl rfl dX7_goes_130 ?_
          refine k_iload_n (pc := 133) C dX7_goes_133 rfl ?_
          refine k_ialdX (pc := 134) (j := (f_X7_picksBy (k_ui (k_ui (f_X7_go2 (f_X7_go1 (k_ui (k_ui mi (7, 0, 0) 42 0) (7, 0, 0) 43 0) nC) nC j) (8, 37, 0) j (-1)) (8, 41, 0) j 0) j ((f_X7_go2 (f_X7_go1 (k_ui (k_ui mi (7, 0, 0) 42 0) (7, 0, 0) 43 0) nC) nC j) (8, 14, 0) j) nC)) C (nI_clamp (by omega)) (by decide +kernel) rfl (vp_in_nI (show _ < (6 : Nat) by omega) (show (6 : Nat) < 2 ^ 31 by decide)) dX7_goes_134 ?_
          refine k_sx (x := (f_X7_go2 (f_X7_go1 (k_ui (k_ui mi (7, 0, 0) 42 0) (7, 0, 0) 43 0) nC) nC j) (8, 6, 0) (f_X7_picksBy (k_ui (k_ui (f_X7_go2 (f_X7_go1 (k_ui (k_ui mi (7, 0, 0) 42 0) (7, 0, 0) 43 0) nC) nC j) (8, 37, 0) j (-1)) (8, 41, 0) j 0) j ((f_X7_go2 (f_X7_go1 (k_ui (k_ui mi (7, 0, 0) 42 0) (7, 0, 0) 43 0) nC) nC j) (8, 14, 0) j) nC)) (Eq.trans (k_uk (by decide)) (Eq.trans (k_uk (by decide)) (Eq.trans (k_uk (by decide)) (k_uk (by decide))))) ?_
          refine k_iconst (pc := 135) (v := 5) C dX7_goes_135 (by decide) ?_
          refine k_icmp_ne (pc := 136) C 158 dX7_goes_136 (by decide) (fun c136 => ?_) (fun c136 => ?_)
          · skip
            refine k_iconst (pc := 158) (v := 0) C dX7_goes_158 (by decide) ?_
            refine k_istore_3 (pc := 159) C dX7_goes_159 rfl ?_
            refine k_iload_n (pc := 160) C dX7_goes_160 rfl ?_
            refine k_if_neF (pc := 161) C 186 dX7_goes_161 (by decide) (by decide) ?_
            refine k_aload_n (pc := 164) C dX7_goes_164 rfl ?_
            refine k_getR (pc := 165) (r := some (8, 8, 0)) C fl_X7_26 k_in7 rfl rfl rfl dX7_goes_165 ?_
            refine k_iload_n (pc := 168) C dX7_goes_168 rfl ?_
            refine k_ialdX (pc := 169) (j := (f_X7_picksBy (k_ui (k_ui (f_X7_go2 (f_X7_go1 (k_ui (k_ui mi (7, 0, 0) 42 0) (7, 0, 0) 43 0) nC) nC j) (8, 37, 0) j (-1)) (8, 41, 0) j 0) j ((f_X7_go2 (f_X7_go1 (k_ui (k_ui mi (7, 0, 0) 42 0) (7, 0, 0) 43 0) nC) nC j) (8, 14, 0) j) nC)) C (nI_clamp (by omega)) (by decide +kernel) rfl (vp_in_nI (show _ < (6 : Nat) by omega) (show (6 : Nat) < 2 ^ 31 by decide)) dX7_goes_169 ?_
            refine k_sx (x := (f_X7_go2 (f_X7_go1 (k_ui (k_ui mi (7, 0, 0) 42 0) (7, 0, 0) 43 0) nC) nC j) (8, 8, 0) (f_X7_picksBy (k_ui (k_ui (f_X7_go2 (f_X7_go1 (k_ui (k_ui mi (7, 0, 0) 42 0) (7, 0, 0) 43 0) nC) nC j) (8, 37, 0) j (-1)) (8, 41, 0) j 0) j ((f_X7_go2 (f_X7_go1 (k_ui (k_ui mi (7, 0, 0) 42 0) (7, 0, 0) 43 0) nC) nC j) (8, 14, 0) j) nC)) (Eq.trans (k_uk (by decide)) (Eq.trans (k_uk (by decide)) (Eq.trans (k_uk (by decide)) (k_uk (by decide))))) ?_
            refine k_aload_n (pc := 170) C dX7_goes_170 rfl ?_
            refine k_getR (pc := 171) (r := some (8, 39, 0)) C fl_X7_105 k_in7 rfl rfl rfl dX7_goes_171 ?_
            refine k_iload_n (pc := 174) C dX7_goes_174 rfl ?_
            refine k_ialdX (pc := 175) (j := (f_X7_picksBy (k_ui (k_ui (f_X7_go2 (f_X7_go1 (k_ui (k_ui mi (7, 0, 0) 42 0) (7, 0, 0) 43 0) nC) nC j) (8, 37, 0) j (-1)) (8, 41, 0) j 0) j ((f_X7_go2 (f_X7_go1 (k_ui (k_ui mi (7, 0, 0) 42 0) (7, 0, 0) 43 0) nC) nC j) (8, 14, 0) j) nC)) C (nI_clamp (by omega)) (by decide +kernel) rfl (vp_in_nI (show _ < (6 : Nat) by omega) (show (6 : Nat) < 2 ^ 31 by decide)) dX7_goes_175 ?_
            refine k_sx (x := (f_X7_go2 (f_X7_go1 (k_ui (k_ui mi (7, 0, 0) 42 0) (7, 0, 0) 43 0) nC) nC j) (8, 39, 0) (f_X7_picksBy (k_ui (k_ui (f_X7_go2 (f_X7_go1 (k_ui (k_ui mi (7, 0, 0) 42 0) (7, 0, 0) 43 0) nC) nC j) (8, 37, 0) j (-1)) (8, 41, 0) j 0) j ((f_X7_go2 (f_X7_go1 (k_ui (k_ui mi (7, 0, 0) 42 0) (7, 0, 0) 43 0) nC) nC j) (8, 14, 0) j) nC)) (Eq.trans (k_uk (by decide)) (Eq.trans (k_uk (by decide)) (Eq.trans (k_uk (by decide)) (k_uk (by decide))))) ?_
            refine k_aload_n (pc := 176) C dX7_goes_176 rfl ?_
            refine k_getR (pc := 177) (r := some (8, 13, 0)) C fl_X7_41 k_in7 rfl rfl rfl dX7_goes_177 ?_
            refine k_iload_n (pc := 180) C dX7_goes_180 rfl ?_
            refine k_ialdX (pc := 181) (j := j) C (nI_clamp (by omega)) (by decide +kernel) rfl (vp_in_nI (show _ < (6 : Nat) by omega) (show (6 : Nat) < 2 ^ 31 by decide)) dX7_goes_181 ?_
            refine k_sx (x := (f_X7_go2 (f_X7_go1 (k_ui (k_ui mi (7, 0, 0) 42 0) (7, 0, 0) 43 0) nC) nC j) (8, 13, 0) j) (Eq.trans (k_uk (by decide)) (Eq.trans (k_uk (by decide)) (Eq.trans (k_uk (by decide)) (k_uk (by decide))))) ?_
            refine k_iadd (pc := 182) C dX7_goes_182 ?_
            refine k_icmp_lt (pc := 183) C 239 dX7_goes_183 (by decide) (fun c183 => ?_) (fun c183 => ?_)
            · skip
              refine k_aload_n (pc := 239) C dX7_goes_239 rfl ?_
              refine k_dup (pc := 240) C dX7_goes_240 rfl ?_
              refine k_getI (pc := 241) C fl_X7_227 k_in7 rfl rfl dX7_goes_241 ?_
              refine k_sx (x := (f_X7_go2 (f_X7_go1 (k_ui (k_ui mi (7, 0, 0) 42 0) (7, 0, 0) 43 0) nC) nC j) (7, 0, 0) 42) (Eq.trans (k_uk (by decide)) (Eq.trans (k_uk (by decide)) (Eq.trans (k_uk (by decide)) (k_uk (by decide))))) ?_
              refine k_iconst (pc := 244) (v := 1) C dX7_goes_244 (by decide) ?_
              refine k_aload_n (pc := 245) C dX7_goes_245 rfl ?_
              refine k_getR (pc := 246) (r := some (8, 41, 0)) C fl_X7_111 k_in7 rfl rfl rfl dX7_goes_246 ?_
              refine k_iload_n (pc := 249) C dX7_goes_249 rfl ?_
              refine k_ialdX (pc := 250) (j := j) C (nI_clamp (by omega)) (by decide +kernel) rfl (vp_in_nI (show _ < (6 : Nat) by omega) (show (6 : Nat) < 2 ^ 31 by decide)) dX7_goes_250 ?_
              refine k_sx (x := 0) (Eq.trans (k_uk (by decide)) (Eq.trans (k_uk (by decide)) (k_uis))) ?_
              refine k_isub (pc := 251) C dX7_goes_251 ?_
              refine k_sx (x := 1) (by decide) ?_
              refine k_iadd (pc := 252) C dX7_goes_252 ?_
              refine k_putI (pc := 253) C pl_X7_227 k_in7 rfl rfl dX7_goes_253 ?_
              refine k_iinc_1 (pc := 256) (v := nI (j + 1)) C dX7_goes_256 (k_inc j) rfl ?_
              refine k_goto (pc := 259) C 60 dX7_goes_259 (by decide) ?_
              refine k_drop_2 ?_
              refine k_drop_3 ?_
              exact k_cast rfl (by rw [f_X7_go2_s, if_neg c89, if_pos c103, if_neg c136, if_pos c183]) rfl hk
            · skip
              refine k_aload_n (pc := 186) C dX7_goes_186 rfl ?_
              refine k_getR (pc := 187) (r := some (8, 41, 0)) C fl_X7_111 k_in7 rfl rfl rfl dX7_goes_187 ?_
              refine k_iload_n (pc := 190) C dX7_goes_190 rfl ?_
              refine k_iconst (pc := 191) (v := 1) C dX7_goes_191 (by decide) ?_
              refine k_iastX (pc := 192) (j := j) C (nI_clamp (by omega)) (by decide +kernel) rfl (vp_in_nI (show _ < (6 : Nat) by omega) (show (6 : Nat) < 2 ^ 31 by decide)) dX7_goes_192 ?_
              refine k_aload_n (pc := 193) C dX7_goes_193 rfl ?_
              refine k_dup (pc := 194) C dX7_goes_194 rfl ?_
              refine k_getI (pc := 195) C fl_X7_230 k_in7 rfl rfl dX7_goes_195 ?_
              refine k_sx (x := (f_X7_go2 (f_X7_go1 (k_ui (k_ui mi (7, 0, 0) 42 0) (7, 0, 0) 43 0) nC) nC j) (7, 0, 0) 43) (Eq.trans (k_uk (by decide)) (Eq.trans (k_uk (by decide)) (Eq.trans (k_uk (by decide)) (Eq.trans (k_uk (by decide)) (k_uk (by decide)))))) ?_
              refine k_iconst (pc := 198) (v := 1) C dX7_goes_198 (by decide) ?_
              refine k_iload_n (pc := 199) C dX7_goes_199 rfl ?_
              refine k_ishl (pc := 200) C dX7_goes_200 ?_
              refine k_iadd (pc := 201) C dX7_goes_201 ?_
              refine k_putI (pc := 202) C pl_X7_230 k_in7 rfl rfl dX7_goes_202 ?_
              refine k_aload_n (pc := 205) C dX7_goes_205 rfl ?_
              refine k_getR (pc := 206) (r := some (8, 40, 0)) C fl_X7_108 k_in7 rfl rfl rfl dX7_goes_206 ?_
              refine k_iload_n (pc := 209) C dX7_goes_209 rfl ?_
              refine k_dup2 (pc := 210) C dX7_goes_210 rfl rfl ?_
              refine k_ialdX (pc := 211) (j := (f_X7_picksBy (k_ui (k_ui (f_X7_go2 (f_X7_go1 (k_ui (k_ui mi (7, 0, 0) 42 0) (7, 0, 0) 43 0) nC) nC j) (8, 37, 0) j (-1)) (8, 41, 0) j 0) j ((f_X7_go2 (f_X7_go1 (k_ui (k_ui mi (7, 0, 0) 42 0) (7, 0, 0) 43 0) nC) nC j) (8, 14, 0) j) nC)) C (nI_clamp (by omega)) (by decide +kernel) rfl (vp_in_nI (show _ < (6 : Nat) by omega) (show (6 : Nat) < 2 ^ 31 by decide)) dX7_goes_211 ?_
              refine k_sx (x := (f_X7_go2 (f_X7_go1 (k_ui (k_ui mi (7, 0, 0) 42 0) (7, 0, 0) 43 0) nC) nC j) (8, 40, 0) (f_X7_picksBy (k_ui (k_ui (f_X7_go2 (f_X7_go1 (k_ui (k_ui mi (7, 0, 0) 42 0) (7, 0, 0) 43 0) nC) nC j) (8, 37, 0) j (-1)) (8, 41, 0) j 0) j ((f_X7_go2 (f_X7_go1 (k_ui (k_ui mi (7, 0, 0) 42 0) (7, 0, 0) 43 0) nC) nC j) (8, 14, 0) j) nC)) (Eq.trans (k_uk (by decide)) (Eq.trans (k_uk (by decide)) (Eq.trans (k_uk (by decide)) (Eq.trans (k_uk (by decide)) (Eq.trans (k_uk (by decide)) (k_uk (by decide))))))) ?_
              refine k_aload_n (pc := 212) C dX7_goes_212 rfl ?_
              refine k_getR (pc := 213) (r := some (8, 13, 0)) C fl_X7_41 k_in7 rfl rfl rfl dX7_goes_213 ?_
              refine k_iload_n (pc := 216) C dX7_goes_216 rfl ?_
              refine k_ialdX (pc := 217) (j := j) C (nI_clamp (by omega)) (by decide +kernel) rfl (vp_in_nI (show _ < (6 : Nat) by omega) (show (6 : Nat) < 2 ^ 31 by decide)) dX7_goes_217 ?_
              refine k_sx (x := (f_X7_go2 (f_X7_go1 (k_ui (k_ui mi (7, 0, 0) 42 0) (7, 0, 0) 43 0) nC) nC j) (8, 13, 0) j) (Eq.trans (k_uk (by decide)) (Eq.trans (k_uk (by decide)) (Eq.trans (k_uk (by decide)) (Eq.trans (k_uk (by decide)) (Eq.trans (k_uk (by decide)) (k_uk (by decide))))))) ?_
              refine k_iadd (pc := 218) C dX7_goes_218 ?_
              refine k_iastX (pc := 219) (j := (f_X7_picksBy (k_ui (k_ui (f_X7_go2 (f_X7_go1 (k_ui (k_ui mi (7, 0, 0) 42 0) (7, 0, 0) 43 0) nC) nC j) (8, 37, 0) j (-1)) (8, 41, 0) j 0) j ((f_X7_go2 (f_X7_go1 (k_ui (k_ui mi (7, 0, 0) 42 0) (7, 0, 0) 43 0) nC) nC j) (8, 14, 0) j) nC)) C (nI_clamp (by omega)) (by decide +kernel) rfl (vp_in_nI (show _ < (6 : Nat) by omega) (show (6 : Nat) < 2 ^ 31 by decide)) dX7_goes_219 ?_
              refine k_iload_n (pc := 220) C dX7_goes_220 rfl ?_
              refine k_if_neF (pc := 221) C 239 dX7_goes_221 (by decide) (by decide) ?_
              refine k_aload_n (pc := 224) C dX7_goes_224 rfl ?_
              refine k_getR (pc := 225) (r := some (8, 39, 0)) C fl_X7_105 k_in7 rfl rfl rfl dX7_goes_225 ?_
              refine k_iload_n (pc := 228) C dX7_goes_228 rfl ?_
              refine k_dup2 (pc := 229) C dX7_goes_229 rfl rfl ?_
              refine k_ialdX (pc := 230) (j := (f_X7_picksBy (k_ui (k_ui (f_X7_go2 (f_X7_go1 (k_ui (k_ui mi (7, 0, 0) 42 0) (7, 0, 0) 43 0) nC) nC j) (8, 37, 0) j (-1)) (8, 41, 0) j 0) j ((f_X7_go2 (f_X7_go1 (k_ui (k_ui mi (7, 0, 0) 42 0) (7, 0, 0) 43 0) nC) nC j) (8, 14, 0) j) nC)) C (nI_clamp (by omega)) (by decide +kernel) rfl (vp_in_nI (show _ < (6 : Nat) by omega) (show (6 : Nat) < 2 ^ 31 by decide)) dX7_goes_230 ?_
              refine k_sx (x := (f_X7_go2 (f_X7_go1 (k_ui (k_ui mi (7, 0, 0) 42 0) (7, 0, 0) 43 0) nC) nC j) (8, 39, 0) (f_X7_picksBy (k_ui (k_ui (f_X7_go2 (f_X7_go1 (k_ui (k_ui mi (7, 0, 0) 42 0) (7, 0, 0) 43 0) nC) nC j) (8, 37, 0) j (-1)) (8, 41, 0) j 0) j ((f_X7_go2 (f_X7_go1 (k_ui (k_ui mi (7, 0, 0) 42 0) (7, 0, 0) 43 0) nC) nC j) (8, 14, 0) j) nC)) (Eq.trans (k_uk (by decide)) (Eq.trans (k_uk (by decide)) (Eq.trans (k_uk (by decide)) (Eq.trans (k_uk (by decide)) (Eq.trans (k_uk (by decide)) (Eq.trans (k_uk (by decide)) (k_uk (by decide)))))))) ?_
              refine k_aload_n (pc := 231) C dX7_goes_231 rfl ?_
              refine k_getR (pc := 232) (r := some (8, 13, 0)) C fl_X7_41 k_in7 rfl rfl rfl dX7_goes_232 ?_
              refine k_iload_n (pc := 235) C dX7_goes_235 rfl ?_
              refine k_ialdX (pc := 236) (j := j) C (nI_clamp (by omega)) (by decide +kernel) rfl (vp_in_nI (show _ < (6 : Nat) by omega) (show (6 : Nat) < 2 ^ 31 by decide)) dX7_goes_236 ?_
              refine k_sx (x := (f_X7_go2 (f_X7_go1 (k_ui (k_ui mi (7, 0, 0) 42 0) (7, 0, 0) 43 0) nC) nC j) (8, 13, 0) j) (Eq.trans (k_uk (by decide)) (Eq.trans (k_uk (by decide)) (Eq.trans (k_uk (by decide)) (Eq.trans (k_uk (by decide)) (Eq.trans (k_uk (by decide)) (Eq.trans (k_uk (by decide)) (k_uk (by decide)))))))) ?_
              refine k_iadd (pc := 237) C dX7_goes_237 ?_
              refine k_iastX (pc := 238) (j := (f_X7_picksBy (k_ui (k_ui (f_X7_go2 (f_X7_go1 (k_ui (k_ui mi (7, 0, 0) 42 0) (7, 0, 0) 43 0) nC) nC j) (8, 37, 0) j (-1)) (8, 41, 0) j 0) j ((f_X7_go2 (f_X7_go1 (k_ui (k_ui mi (7, 0, 0) 42 0) (7, 0, 0) 43 0) nC) nC j) (8, 14, 0) j) nC)) C (nI_clamp (by omega)) (by decide +kernel) rfl (vp_in_nI (show _ < (6 : Nat) by omega) (show (6 : Nat) < 2 ^ 31 by decide)) dX7_goes_238 ?_
              refine k_aload_n (pc := 239) C dX7_goes_239 rfl ?_
              refine k_dup (pc := 240) C dX7_goes_240 rfl ?_
              refine k_getI (pc := 241) C fl_X7_227 k_in7 rfl rfl dX7_goes_241 ?_
              refine k_sx (x := (f_X7_go2 (f_X7_go1 (k_ui (k_ui mi (7, 0, 0) 42 0) (7, 0, 0) 43 0) nC) nC j) (7, 0, 0) 42) (Eq.trans (k_uk (by decide)) (Eq.trans (k_uk (by decide)) (Eq.trans (k_uj (by decide)) (Eq.trans (k_uk (by decide)) (Eq.trans (k_uk (by decide)) (Eq.trans (k_uk (by decide)) (Eq.trans (k_uk (by decide)) (k_uk (by decide))))))))) ?_
              refine k_iconst (pc := 244) (v := 1) C dX7_goes_244 (by decide) ?_
              refine k_aload_n (pc := 245) C dX7_goes_245 rfl ?_
              refine k_getR (pc := 246) (r := some (8, 41, 0)) C fl_X7_111 k_in7 rfl rfl rfl dX7_goes_246 ?_
              refine k_iload_n (pc := 249) C dX7_goes_249 rfl ?_
              refine k_ialdX (pc := 250) (j := j) C (nI_clamp (by omega)) (by decide +kernel) rfl (vp_in_nI (show _ < (6 : Nat) by omega) (show (6 : Nat) < 2 ^ 31 by decide)) dX7_goes_250 ?_
              refine k_sx (x := 1) (Eq.trans (k_uk (by decide)) (Eq.trans (k_uk (by decide)) (Eq.trans (k_uk (by decide)) (k_uis)))) ?_
              refine k_isub (pc := 251) C dX7_goes_251 ?_
              refine k_sx (x := 0) (by decide) ?_
              refine k_iadd (pc := 252) C dX7_goes_252 ?_
              refine k_putI (pc := 253) C pl_X7_227 k_in7 rfl rfl dX7_goes_253 ?_
              refine k_iinc_1 (pc := 256) (v := nI (j + 1)) C dX7_goes_256 (k_inc j) rfl ?_
              refine k_goto (pc := 259) C 60 dX7_goes_259 (by decide) ?_
              refine k_drop_2 ?_
              refine k_drop_3 ?_
              exact k_cast rfl (by rw [f_X7_go2_s, if_neg c89, if_pos c103, if_neg c136, if_neg c183]) rfl hk
          · skip
            refine k_aload_n (pc := 139) C dX7_goes_139 rfl ?_
            refine k_getR (pc := 140) (r := some (8, 13, 0)) C fl_X7_41 k_in7 rfl rfl rfl dX7_goes_140 ?_
            refine k_iload_n (pc := 143) C dX7_goes_143 rfl ?_
            refine k_ialdX (pc := 144) (j := j) C (nI_clamp (by omega)) (by decide +kernel) rfl (vp_in_nI (show _ < (6 : Nat) by omega) (show (6 : Nat) < 2 ^ 31 by decide)) dX7_goes_144 ?_
            refine k_sx (x := (f_X7_go2 (f_X7_go1 (k_ui (k_ui mi (7, 0, 0) 42 0) (7, 0, 0) 43 0) nC) nC j) (8, 13, 0) j) (Eq.trans (k_uk (by decide)) (Eq.trans (k_uk (by decide)) (Eq.trans (k_uk (by decide)) (k_uk (by decide))))) ?_
            refine k_aload_n (pc := 145) C dX7_goes_145 rfl ?_
            refine k_getR (pc := 146) (r := some (8, 7, 0)) C fl_X7_23 k_in7 rfl rfl rfl dX7_goes_146 ?_
            refine k_iload_n (pc := 149) C dX7_goes_149 rfl ?_
            refine k_ialdX (pc := 150) (j := (f_X7_picksBy (k_ui (k_ui (f_X7_go2 (f_X7_go1 (k_ui (k_ui mi (7, 0, 0) 42 0) (7, 0, 0) 43 0) nC) nC j) (8, 37, 0) j (-1)) (8, 41, 0) j 0) j ((f_X7_go2 (f_X7_go1 (k_ui (k_ui mi (7, 0, 0) 42 0) (7, 0, 0) 43 0) nC) nC j) (8, 14, 0) j) nC)) C (nI_clamp (by omega)) (by decide +kernel) rfl (vp_in_nI (show _ < (6 : Nat) by omega) (show (6 : Nat) < 2 ^ 31 by decide)) dX7_goes_150 ?_
            refine k_sx (x := (f_X7_go2 (f_X7_go1 (k_ui (k_ui mi (7, 0, 0) 42 0) (7, 0, 0) 43 0) nC) nC j) (8, 7, 0) (f_X7_picksBy (k_ui (k_ui (f_X7_go2 (f_X7_go1 (k_ui (k_ui mi (7, 0, 0) 42 0) (7, 0, 0) 43 0) nC) nC j) (8, 37, 0) j (-1)) (8, 41, 0) j 0) j ((f_X7_go2 (f_X7_go1 (k_ui (k_ui mi (7, 0, 0) 42 0) (7, 0, 0) 43 0) nC) nC j) (8, 14, 0) j) nC)) (Eq.trans (k_uk (by decide)) (Eq.trans (k_uk (by decide)) (Eq.trans (k_uk (by decide)) (k_uk (by decide))))) ?_
            refine k_icmp_gt (pc := 151) C 158 dX7_goes_151 (by decide) (fun c151 => ?_) (fun c151 => ?_)
            · skip
              refine k_iconst (pc := 158) (v := 0) C dX7_goes_158 (by decide) ?_
              refine k_istore_3 (pc := 159) C dX7_goes_159 rfl ?_
              refine k_iload_n (pc := 160) C dX7_goes_160 rfl ?_
              refine k_if_neF (pc := 161) C 186 dX7_goes_161 (by decide) (by decide) ?_
              refine k_aload_n (pc := 164) C dX7_goes_164 rfl ?_
              refine k_getR (pc := 165) (r := some (8, 8, 0)) C fl_X7_26 k_in7 rfl rfl rfl dX7_goes_165 ?_
              refine k_iload_n (pc := 168) C dX7_goes_168 rfl ?_
              refine k_ialdX (pc := 169) (j := (f_X7_picksBy (k_ui (k_ui (f_X7_go2 (f_X7_go1 (k_ui (k_ui mi (7, 0, 0) 42 0) (7, 0, 0) 43 0) nC) nC j) (8, 37, 0) j (-1)) (8, 41, 0) j 0) j ((f_X7_go2 (f_X7_go1 (k_ui (k_ui mi (7, 0, 0) 42 0) (7, 0, 0) 43 0) nC) nC j) (8, 14, 0) j) nC)) C (nI_clamp (by omega)) (by decide +kernel) rfl (vp_in_nI (show _ < (6 : Nat) by omega) (show (6 : Nat) < 2 ^ 31 by decide)) dX7_goes_169 ?_
              refine k_sx (x := (f_X7_go2 (f_X7_go1 (k_ui (k_ui mi (7, 0, 0) 42 0) (7, 0, 0) 43 0) nC) nC j) (8, 8, 0) (f_X7_picksBy (k_ui (k_ui (f_X7_go2 (f_X7_go1 (k_ui (k_ui mi (7, 0, 0) 42 0) (7, 0, 0) 43 0) nC) nC j) (8, 37, 0) j (-1)) (8, 41, 0) j 0) j ((f_X7_go2 (f_X7_go1 (k_ui (k_ui mi (7, 0, 0) 42 0) (7, 0, 0) 43 0) nC) nC j) (8, 14, 0) j) nC)) (Eq.trans (k_uk (by decide)) (Eq.trans (k_uk (by decide)) (Eq.trans (k_uk (by decide)) (k_uk (by decide))))) ?_
              refine k_aload_n (pc := 170) C dX7_goes_170 rfl ?_
              refine k_getR (pc := 171) (r := some (8, 39, 0)) C fl_X7_105 k_in7 rfl rfl rfl dX7_goes_171 ?_
              refine k_iload_n (pc := 174) C dX7_goes_174 rfl ?_
              refine k_ialdX (pc := 175) (j := (f_X7_picksBy (k_ui (k_ui (f_X7_go2 (f_X7_go1 (k_ui (k_ui mi (7, 0, 0) 42 0) (7, 0, 0) 43 0) nC) nC j) (8, 37, 0) j (-1)) (8, 41, 0) j 0) j ((f_X7_go2 (f_X7_go1 (k_ui (k_ui mi (7, 0, 0) 42 0) (7, 0, 0) 43 0) nC) nC j) (8, 14, 0) j) nC)) C (nI_clamp (by omega)) (by decide +kernel) rfl (vp_in_nI (show _ < (6 : Nat) by omega) (show (6 : Nat) < 2 ^ 31 by decide)) dX7_goes_175 ?_
              refine k_sx (x := (f_X7_go2 (f_X7_go1 (k_ui (k_ui mi (7, 0, 0) 42 0) (7, 0, 0) 43 0) nC) nC j) (8, 39, 0) (f_X7_picksBy (k_ui (k_ui (f_X7_go2 (f_X7_go1 (k_ui (k_ui mi (7, 0, 0) 42 0) (7, 0, 0) 43 0) nC) nC j) (8, 37, 0) j (-1)) (8, 41, 0) j 0) j ((f_X7_go2 (f_X7_go1 (k_ui (k_ui mi (7, 0, 0) 42 0) (7, 0, 0) 43 0) nC) nC j) (8, 14, 0) j) nC)) (Eq.trans (k_uk (by decide)) (Eq.trans (k_uk (by decide)) (Eq.trans (k_uk (by decide)) (k_uk (by decide))))) ?_
              refine k_aload_n (pc := 176) C dX7_goes_176 rfl ?_
              refine k_getR (pc := 177) (r := some (8, 13, 0)) C fl_X7_41 k_in7 rfl rfl rfl dX7_goes_177 ?_
              refine k_iload_n (pc := 180) C dX7_goes_180 rfl ?_
              refine k_ialdX (pc := 181) (j := j) C (nI_clamp (by omega)) (by decide +kernel) rfl (vp_in_nI (show _ < (6 : Nat) by omega) (show (6 : Nat) < 2 ^ 31 by decide)) dX7_goes_181 ?_
              refine k_sx (x := (f_X7_go2 (f_X7_go1 (k_ui (k_ui mi (7, 0, 0) 42 0) (7, 0, 0) 43 0) nC) nC j) (8, 13, 0) j) (Eq.trans (k_uk (by decide)) (Eq.trans (k_uk (by decide)) (Eq.trans (k_uk (by decide)) (k_uk (by decide))))) ?_
              refine k_iadd (pc := 182) C dX7_goes_182 ?_
              refine k_icmp_lt (pc := 183) C 239 dX7_goes_183 (by decide) (fun c183 => ?_) (fun c183 => ?_)
              · skip
                refine k_aload_n (pc := 239) C dX7_goes_239 rfl ?_
                refine k_dup (pc := 240) C dX7_goes_240 rfl ?_
                refine k_getI (pc := 241) C fl_X7_227 k_in7 rfl rfl dX7_goes_241 ?_
                refine k_sx (x := (f_X7_go2 (f_X7_go1 (k_ui (k_ui mi (7, 0, 0) 42 0) (7, 0, 0) 43 0) nC) nC j) (7, 0, 0) 42) (Eq.trans (k_uk (by decide)) (Eq.trans (k_uk (by decide)) (Eq.trans (k_uk (by decide)) (k_uk (by decide))))) ?_
                refine k_iconst (pc := 244) (v := 1) C dX7_goes_244 (by decide) ?_
                refine k_aload_n (pc := 245) C dX7_goes_245 rfl ?_
                refine k_getR (pc := 246) (r := some (8, 41, 0)) C fl_X7_111 k_in7 rfl rfl rfl dX7_goes_246 ?_
                refine k_iload_n (pc := 249) C dX7_goes_249 rfl ?_
                refine k_ialdX (pc := 250) (j := j) C (nI_clamp (by omega)) (by decide +kernel) rfl (vp_in_nI (show _ < (6 : Nat) by omega) (show (6 : Nat) < 2 ^ 31 by decide)) dX7_goes_250 ?_
                refine k_sx (x := 0) (Eq.trans (k_uk (by decide)) (Eq.trans (k_uk (by decide)) (k_uis))) ?_
                refine k_isub (pc := 251) C dX7_goes_251 ?_
                refine k_sx (x := 1) (by decide) ?_
                refine k_iadd (pc := 252) C dX7_goes_252 ?_
                refine k_putI (pc := 253) C pl_X7_227 k_in7 rfl rfl dX7_goes_253 ?_
                refine k_iinc_1 (pc := 256) (v := nI (j + 1)) C dX7_goes_256 (k_inc j) rfl ?_
                refine k_goto (pc := 259) C 60 dX7_goes_259 (by decide) ?_
                refine k_drop_2 ?_
                refine k_drop_3 ?_
                exact k_cast rfl (by rw [f_X7_go2_s, if_neg c89, if_pos c103, if_pos c136, if_pos c151, if_pos c183]) rfl hk
              · skip
                refine k_aload_n (pc := 186) C dX7_goes_186 rfl ?_
                refine k_getR (pc := 187) (r := some (8, 41, 0)) C fl_X7_111 k_in7 rfl rfl rfl dX7_goes_187 ?_
                refine k_iload_n (pc := 190) C dX7_goes_190 rfl ?_
                refine k_iconst (pc := 191) (v := 1) C dX7_goes_191 (by decide) ?_
                refine k_iastX (pc := 192) (j := j) C (nI_clamp (by omega)) (by decide +kernel) rfl (vp_in_nI (show _ < (6 : Nat) by omega) (show (6 : Nat) < 2 ^ 31 by decide)) dX7_goes_192 ?_
                refine k_aload_n (pc := 193) C dX7_goes_193 rfl ?_
                refine k_dup (pc := 194) C dX7_goes_194 rfl ?_
                refine k_getI (pc := 195) C fl_X7_230 k_in7 rfl rfl dX7_goes_195 ?_
                refine k_sx (x := (f_X7_go2 (f_X7_go1 (k_ui (k_ui mi (7, 0, 0) 42 0) (7, 0, 0) 43 0) nC) nC j) (7, 0, 0) 43) (Eq.trans (k_uk (by decide)) (Eq.trans (k_uk (by decide)) (Eq.trans (k_uk (by decide)) (Eq.trans (k_uk (by decide)) (k_uk (by decide)))))) ?_
                refine k_iconst (pc := 198) (v := 1) C dX7_goes_198 (by decide) ?_
                refine k_iload_n (pc := 199) C dX7_goes_199 rfl ?_
                refine k_ishl (pc := 200) C dX7_goes_200 ?_
                refine k_iadd (pc := 201) C dX7_goes_201 ?_
                refine k_putI (pc := 202) C pl_X7_230 k_in7 rfl rfl dX7_goes_202 ?_
                refine k_aload_n (pc := 205) C dX7_goes_205 rfl ?_
                refine k_getR (pc := 206) (r := some (8, 40, 0)) C fl_X7_108 k_in7 rfl rfl rfl dX7_goes_206 ?_
                refine k_iload_n (pc := 209) C dX7_goes_209 rfl ?_
                refine k_dup2 (pc := 210) C dX7_goes_210 rfl rfl ?_
                refine k_ialdX (pc := 211) (j := (f_X7_picksBy (k_ui (k_ui (f_X7_go2 (f_X7_go1 (k_ui (k_ui mi (7, 0, 0) 42 0) (7, 0, 0) 43 0) nC) nC j) (8, 37, 0) j (-1)) (8, 41, 0) j 0) j ((f_X7_go2 (f_X7_go1 (k_ui (k_ui mi (7, 0, 0) 42 0) (7, 0, 0) 43 0) nC) nC j) (8, 14, 0) j) nC)) C (nI_clamp (by omega)) (by decide +kernel) rfl (vp_in_nI (show _ < (6 : Nat) by omega) (show (6 : Nat) < 2 ^ 31 by decide)) dX7_goes_211 ?_
                refine k_sx (x := (f_X7_go2 (f_X7_go1 (k_ui (k_ui mi (7, 0, 0) 42 0) (7, 0, 0) 43 0) nC) nC j) (8, 40, 0) (f_X7_picksBy (k_ui (k_ui (f_X7_go2 (f_X7_go1 (k_ui (k_ui mi (7, 0, 0) 42 0) (7, 0, 0) 43 0) nC) nC j) (8, 37, 0) j (-1)) (8, 41, 0) j 0) j ((f_X7_go2 (f_X7_go1 (k_ui (k_ui mi (7, 0, 0) 42 0) (7, 0, 0) 43 0) nC) nC j) (8, 14, 0) j) nC)) (Eq.trans (k_uk (by decide)) (Eq.trans (k_uk (by decide)) (Eq.trans (k_uk (by decide)) (Eq.trans (k_uk (by decide)) (Eq.trans (k_uk (by decide)) (k_uk (by decide))))))) ?_
                refine k_aload_n (pc := 212) C dX7_goes_212 rfl ?_
                refine k_getR (pc := 213) (r := some (8, 13, 0)) C fl_X7_41 k_in7 rfl rfl rfl dX7_goes_213 ?_
                refine k_iload_n (pc := 216) C dX7_goes_216 rfl ?_
                refine k_ialdX (pc := 217) (j := j) C (nI_clamp (by omega)) (by decide +kernel) rfl (vp_in_nI (show _ < (6 : Nat) by omega) (show (6 : Nat) < 2 ^ 31 by decide)) dX7_goes_217 ?_
                refine k_sx (x := (f_X7_go2 (f_X7_go1 (k_ui (k_ui mi (7, 0, 0) 42 0) (7, 0, 0) 43 0) nC) nC j) (8, 13, 0) j) (Eq.trans (k_uk (by decide)) (Eq.trans (k_uk (by decide)) (Eq.trans (k_uk (by decide)) (Eq.trans (k_uk (by decide)) (Eq.trans (k_uk (by decide)) (k_uk (by decide))))))) ?_
                refine k_iadd (pc := 218) C dX7_goes_218 ?_
                refine k_iastX (pc := 219) (j := (f_X7_picksBy (k_ui (k_ui (f_X7_go2 (f_X7_go1 (k_ui (k_ui mi (7, 0, 0) 42 0) (7, 0, 0) 43 0) nC) nC j) (8, 37, 0) j (-1)) (8, 41, 0) j 0) j ((f_X7_go2 (f_X7_go1 (k_ui (k_ui mi (7, 0, 0) 42 0) (7, 0, 0) 43 0) nC) nC j) (8, 14, 0) j) nC)) C (nI_clamp (by omega)) (by decide +kernel) rfl (vp_in_nI (show _ < (6 : Nat) by omega) (show (6 : Nat) < 2 ^ 31 by decide)) dX7_goes_219 ?_
                refine k_iload_n (pc := 220) C dX7_goes_220 rfl ?_
                refine k_if_neF (pc := 221) C 239 dX7_goes_221 (by decide) (by decide) ?_
                refine k_aload_n (pc := 224) C dX7_goes_224 rfl ?_
                refine k_getR (pc := 225) (r := some (8, 39, 0)) C fl_X7_105 k_in7 rfl rfl rfl dX7_goes_225 ?_
                refine k_iload_n (pc := 228) C dX7_goes_228 rfl ?_
                refine k_dup2 (pc := 229) C dX7_goes_229 rfl rfl ?_
                refine k_ialdX (pc := 230) (j := (f_X7_picksBy (k_ui (k_ui (f_X7_go2 (f_X7_go1 (k_ui (k_ui mi (7, 0, 0) 42 0) (7, 0, 0) 43 0) nC) nC j) (8, 37, 0) j (-1)) (8, 41, 0) j 0) j ((f_X7_go2 (f_X7_go1 (k_ui (k_ui mi (7, 0, 0) 42 0) (7, 0, 0) 43 0) nC) nC j) (8, 14, 0) j) nC)) C (nI_clamp (by omega)) (by decide +kernel) rfl (vp_in_nI (show _ < (6 : Nat) by omega) (show (6 : Nat) < 2 ^ 31 by decide)) dX7_goes_230 ?_
                refine k_sx (x := (f_X7_go2 (f_X7_go1 (k_ui (k_ui mi (7, 0, 0) 42 0) (7, 0, 0) 43 0) nC) nC j) (8, 39, 0) (f_X7_picksBy (k_ui (k_ui (f_X7_go2 (f_X7_go1 (k_ui (k_ui mi (7, 0, 0) 42 0) (7, 0, 0) 43 0) nC) nC j) (8, 37, 0) j (-1)) (8, 41, 0) j 0) j ((f_X7_go2 (f_X7_go1 (k_ui (k_ui mi (7, 0, 0) 42 0) (7, 0, 0) 43 0) nC) nC j) (8, 14, 0) j) nC)) (Eq.trans (k_uk (by decide)) (Eq.trans (k_uk (by decide)) (Eq.trans (k_uk (by decide)) (Eq.trans (k_uk (by decide)) (Eq.trans (k_uk (by decide)) (Eq.trans (k_uk (by decide)) (k_uk (by decide)))))))) ?_
                refine k_aload_n (pc := 231) C dX7_goes_231 rfl ?_
                refine k_getR (pc := 232) (r := some (8, 13, 0)) C fl_X7_41 k_in7 rfl rfl rfl dX7_goes_232 ?_
                refine k_iload_n (pc := 235) C dX7_goes_235 rfl ?_
                refine k_ialdX (pc := 236) (j := j) C (nI_clamp (by omega)) (by decide +kernel) rfl (vp_in_nI (show _ < (6 : Nat) by omega) (show (6 : Nat) < 2 ^ 31 by decide)) dX7_goes_236 ?_
                refine k_sx (x := (f_X7_go2 (f_X7_go1 (k_ui (k_ui mi (7, 0, 0) 42 0) (7, 0, 0) 43 0) nC) nC j) (8, 13, 0) j) (Eq.trans (k_uk (by decide)) (Eq.trans (k_uk (by decide)) (Eq.trans (k_uk (by decide)) (Eq.trans (k_uk (by decide)) (Eq.trans (k_uk (by decide)) (Eq.trans (k_uk (by decide)) (k_uk (by decide)))))))) ?_
                refine k_iadd (pc := 237) C dX7_goes_237 ?_
                refine k_iastX (pc := 238) (j := (f_X7_picksBy (k_ui (k_ui (f_X7_go2 (f_X7_go1 (k_ui (k_ui mi (7, 0, 0) 42 0) (7, 0, 0) 43 0) nC) nC j) (8, 37, 0) j (-1)) (8, 41, 0) j 0) j ((f_X7_go2 (f_X7_go1 (k_ui (k_ui mi (7, 0, 0) 42 0) (7, 0, 0) 43 0) nC) nC j) (8, 14, 0) j) nC)) C (nI_clamp (by omega)) (by decide +kernel) rfl (vp_in_nI (show _ < (6 : Nat) by omega) (show (6 : Nat) < 2 ^ 31 by decide)) dX7_goes_238 ?_
                refine k_aload_n (pc := 239) C dX7_goes_239 rfl ?_
                refine k_dup (pc := 240) C dX7_goes_240 rfl ?_
                refine k_getI (pc := 241) C fl_X7_227 k_in7 rfl rfl dX7_goes_241 ?_
                refine k_sx (x := (f_X7_go2 (f_X7_go1 (k_ui (k_ui mi (7, 0, 0) 42 0) (7, 0, 0) 43 0) nC) nC j) (7, 0, 0) 42) (Eq.trans (k_uk (by decide)) (Eq.trans (k_uk (by decide)) (Eq.trans (k_uj (by decide)) (Eq.trans (k_uk (by decide)) (Eq.trans (k_uk (by decide)) (Eq.trans (k_uk (by decide)) (Eq.trans (k_uk (by decide)) (k_uk (by decide))))))))) ?_
                refine k_iconst (pc := 244) (v := 1) C dX7_goes_244 (by decide) ?_
                refine k_aload_n (pc := 245) C dX7_goes_245 rfl ?_
                refine k_getR (pc := 246) (r := some (8, 41, 0)) C fl_X7_111 k_in7 rfl rfl rfl dX7_goes_246 ?_
                refine k_iload_n (pc := 249) C dX7_goes_249 rfl ?_
                refine k_ialdX (pc := 250) (j := j) C (nI_clamp (by omega)) (by decide +kernel) rfl (vp_in_nI (show _ < (6 : Nat) by omega) (show (6 : Nat) < 2 ^ 31 by decide)) dX7_goes_250 ?_
                refine k_sx (x := 1) (Eq.trans (k_uk (by decide)) (Eq.trans (k_uk (by decide)) (Eq.trans (k_uk (by decide)) (k_uis)))) ?_
                refine k_isub (pc := 251) C dX7_goes_251 ?_
                refine k_sx (x := 0) (by decide) ?_
                refine k_iadd (pc := 252) C dX7_goes_252 ?_
                refine k_putI (pc := 253) C pl_X7_227 k_in7 rfl rfl dX7_goes_253 ?_
                refine k_iinc_1 (pc := 256) (v := nI (j + 1)) C dX7_goes_256 (k_inc j) rfl ?_
                refine k_goto (pc := 259) C 60 dX7_goes_259 (by decide) ?_
                refine k_drop_2 ?_
                refine k_drop_3 ?_
                exact k_cast rfl (by rw [f_X7_go2_s, if_neg c89, if_pos c103, if_pos c136, if_pos c151, if_neg c183]) rfl hk
            · skip
              refine k_iconst (pc := 154) (v := 1) C dX7_goes_154 (by decide) ?_
              refine k_goto (pc := 155) C 159 dX7_goes_155 (by decide) ?_
              refine k_istore_3 (pc := 159) C dX7_goes_159 rfl ?_
              refine k_iload_n (pc := 160) C dX7_goes_160 rfl ?_
              refine k_if_neT (pc := 161) C 186 dX7_goes_161 (by decide) (by decide) ?_
              refine k_aload_n (pc := 186) C dX7_goes_186 rfl ?_
              refine k_getR (pc := 187) (r := some (8, 41, 0)) C fl_X7_111 k_in7 rfl rfl rfl dX7_goes_187 ?_
              refine k_iload_n (pc := 190) C dX7_goes_190 rfl ?_
              refine k_iconst (pc := 191) (v := 1) C dX7_goes_191 (by decide) ?_
              refine k_iastX (pc := 192) (j := j) C (nI_clamp (by omega)) (by decide +kernel) rfl (vp_in_nI (show _ < (6 : Nat) by omega) (show (6 : Nat) < 2 ^ 31 by decide)) dX7_goes_192 ?_
              refine k_aload_n (pc := 193) C dX7_goes_193 rfl ?_
              refine k_dup (pc := 194) C dX7_goes_194 rfl ?_
              refine k_getI (pc := 195) C fl_X7_230 k_in7 rfl rfl dX7_goes_195 ?_
              refine k_sx (x := (f_X7_go2 (f_X7_go1 (k_ui (k_ui mi (7, 0, 0) 42 0) (7, 0, 0) 43 0) nC) nC j) (7, 0, 0) 43) (Eq.trans (k_uk (by decide)) (Eq.trans (k_uk (by decide)) (Eq.trans (k_uk (by decide)) (Eq.trans (k_uk (by decide)) (k_uk (by decide)))))) ?_
              refine k_iconst (pc := 198) (v := 1) C dX7_goes_198 (by decide) ?_
              refine k_iload_n (pc := 199) C dX7_goes_199 rfl ?_
              refine k_ishl (pc := 200) C dX7_goes_200 ?_
              refine k_iadd (pc := 201) C dX7_goes_201 ?_
              refine k_putI (pc := 202) C pl_X7_230 k_in7 rfl rfl dX7_goes_202 ?_
              refine k_aload_n (pc := 205) C dX7_goes_205 rfl ?_
              refine k_getR (pc := 206) (r := some (8, 40, 0)) C fl_X7_108 k_in7 rfl rfl rfl dX7_goes_206 ?_
              refine k_iload_n (pc := 209) C dX7_goes_209 rfl ?_
              refine k_dup2 (pc := 210) C dX7_goes_210 rfl rfl ?_
              refine k_ialdX (pc := 211) (j := (f_X7_picksBy (k_ui (k_ui (f_X7_go2 (f_X7_go1 (k_ui (k_ui mi (7, 0, 0) 42 0) (7, 0, 0) 43 0) nC) nC j) (8, 37, 0) j (-1)) (8, 41, 0) j 0) j ((f_X7_go2 (f_X7_go1 (k_ui (k_ui mi (7, 0, 0) 42 0) (7, 0, 0) 43 0) nC) nC j) (8, 14, 0) j) nC)) C (nI_clamp (by omega)) (by decide +kernel) rfl (vp_in_nI (show _ < (6 : Nat) by omega) (show (6 : Nat) < 2 ^ 31 by decide)) dX7_goes_211 ?_
              refine k_sx (x := (f_X7_go2 (f_X7_go1 (k_ui (k_ui mi (7, 0, 0) 42 0) (7, 0, 0) 43 0) nC) nC j) (8, 40, 0) (f_X7_picksBy (k_ui (k_ui (f_X7_go2 (f_X7_go1 (k_ui (k_ui mi (7, 0, 0) 42 0) (7, 0, 0) 43 0) nC) nC j) (8, 37, 0) j (-1)) (8, 41, 0) j 0) j ((f_X7_go2 (f_X7_go1 (k_ui (k_ui mi (7, 0, 0) 42 0) (7, 0, 0) 43 0) nC) nC j) (8, 14, 0) j) nC)) (Eq.trans (k_uk (by decide)) (Eq.trans (k_uk (by decide)) (Eq.trans (k_uk (by decide)) (Eq.trans (k_uk (by decide)) (Eq.trans (k_uk (by decide)) (k_uk (by decide))))))) ?_
              refine k_aload_n (pc := 212) C dX7_goes_212 rfl ?_
              refine k_getR (pc := 213) (r := some (8, 13, 0)) C fl_X7_41 k_in7 rfl rfl rfl dX7_goes_213 ?_
              refine k_iload_n (pc := 216) C dX7_goes_216 rfl ?_
              refine k_ialdX (pc := 217) (j := j) C (nI_clamp (by omega)) (by decide +kernel) rfl (vp_in_nI (show _ < (6 : Nat) by omega) (show (6 : Nat) < 2 ^ 31 by decide)) dX7_goes_217 ?_
              refine k_sx (x := (f_X7_go2 (f_X7_go1 (k_ui (k_ui mi (7, 0, 0) 42 0) (7, 0, 0) 43 0) nC) nC j) (8, 13, 0) j) (Eq.trans (k_uk (by decide)) (Eq.trans (k_uk (by decide)) (Eq.trans (k_uk (by decide)) (Eq.trans (k_uk (by decide)) (Eq.trans (k_uk (by decide)) (k_uk (by decide))))))) ?_
              refine k_iadd (pc := 218) C dX7_goes_218 ?_
              refine k_iastX (pc := 219) (j := (f_X7_picksBy (k_ui (k_ui (f_X7_go2 (f_X7_go1 (k_ui (k_ui mi (7, 0, 0) 42 0) (7, 0, 0) 43 0) nC) nC j) (8, 37, 0) j (-1)) (8, 41, 0) j 0) j ((f_X7_go2 (f_X7_go1 (k_ui (k_ui mi (7, 0, 0) 42 0) (7, 0, 0) 43 0) nC) nC j) (8, 14, 0) j) nC)) C (nI_clamp (by omega)) (by decide +kernel) rfl (vp_in_nI (show _ < (6 : Nat) by omega) (show (6 : Nat) < 2 ^ 31 by decide)) dX7_goes_219 ?_
              refine k_iload_n (pc := 220) C dX7_goes_220 rfl ?_
              refine k_if_neT (pc := 221) C 239 dX7_goes_221 (by decide) (by decide) ?_
              refine k_aload_n (pc := 239) C dX7_goes_239 rfl ?_
              refine k_dup (pc := 240) C dX7_goes_240 rfl ?_
              refine k_getI (pc := 241) C fl_X7_227 k_in7 rfl rfl dX7_goes_241 ?_
              refine k_sx (x := (f_X7_go2 (f_X7_go1 (k_ui (k_ui mi (7, 0, 0) 42 0) (7, 0, 0) 43 0) nC) nC j) (7, 0, 0) 42) (Eq.trans (k_uk (by decide)) (Eq.trans (k_uj (by decide)) (Eq.trans (k_uk (by decide)) (Eq.trans (k_uk (by decide)) (Eq.trans (k_uk (by decide)) (Eq.trans (k_uk (by decide)) (k_uk (by decide)))))))) ?_
              refine k_iconst (pc := 244) (v := 1) C dX7_goes_244 (by decide) ?_
              refine k_aload_n (pc := 245) C dX7_goes_245 rfl ?_
              refine k_getR (pc := 246) (r := some (8, 41, 0)) C fl_X7_111 k_in7 rfl rfl rfl dX7_goes_246 ?_
              refine k_iload_n (pc := 249) C dX7_goes_249 rfl ?_
              refine k_ialdX (pc := 250) (j := j) C (nI_clamp (by omega)) (by decide +kernel) rfl (vp_in_nI (show _ < (6 : Nat) by omega) (show (6 : Nat) < 2 ^ 31 by decide)) dX7_goes_250 ?_
              refine k_sx (x := 1) (Eq.trans (k_uk (by decide)) (Eq.trans (k_uk (by decide)) (k_uis))) ?_
              refine k_isub (pc := 251) C dX7_goes_251 ?_
              refine k_sx (x := 0) (by decide) ?_
              refine k_iadd (pc := 252) C dX7_goes_252 ?_
              refine k_putI (pc := 253) C pl_X7_227 k_in7 rfl rfl dX7_goes_253 ?_
              refine k_iinc_1 (pc := 256) (v := nI (j + 1)) C dX7_goes_256 (k_inc j) rfl ?_
              refine k_goto (pc := 259) C 60 dX7_goes_259 (by decide) ?_
              refine k_drop_2 ?_
              refine k_drop_3 ?_
              exact k_cast rfl (by rw [f_X7_go2_s, if_neg c89, if_pos c103, if_pos c136, if_neg c151]) rfl hk
        · skip
          refine k_sx (x := -1) (k_op_n c103) ?_
          refine k_istore_2 (pc := 106) C dX7_goes_106 rfl ?_
          refine k_aload_n (pc := 107) C dX7_goes_107 rfl ?_
          refine k_getR (pc := 108) (r := some (8, 37, 0)) C fl_X7_99 k_in7 rfl rfl rfl dX7_goes_108 ?_
          refine k_iload_n (pc := 111) C dX7_goes_111 rfl ?_
          refine k_iload_n (pc := 112) C dX7_goes_112 rfl ?_
          refine k_iastX (pc := 113) (j := j) C (nI_clamp (by omega)) (by decide +kernel) rfl (vp_in_nI (show _ < (6 : Nat) by omega) (show (6 : Nat) < 2 ^ 31 by decide)) dX7_goes_113 ?_
          refine k_iload_n (pc := 114) C dX7_goes_114 rfl ?_
          refine k_iconst (pc := 115) (v := (-1)) C dX7_goes_115 (by decide) ?_
          refine k_icmp_eqT (pc := 116) C 239 dX7_goes_116 (by decide) (by decide) ?_
          refine k_aload_n (pc := 239) C dX7_goes_239 rfl ?_
          refine k_dup (pc := 240) C dX7_goes_240 rfl ?_
          refine k_getI (pc := 241) C fl_X7_227 k_in7 rfl rfl dX7_goes_241 ?_
          refine k_sx (x := (f_X7_go2 (f_X7_go1 (k_ui (k_ui mi (7, 0, 0) 42 0) (7, 0, 0) 43 0) nC) nC j) (7, 0, 0) 42) (Eq.trans (k_uk (by decide)) (Eq.trans (k_uk (by decide)) (k_uk (by decide)))) ?_
          refine k_iconst (pc := 244) (v := 1) C dX7_goes_244 (by decide) ?_
          refine k_aload_n (pc := 245) C dX7_goes_245 rfl ?_
          refine k_getR (pc := 246) (r := some (8, 41, 0)) C fl_X7_111 k_in7 rfl rfl rfl dX7_goes_246 ?_
          refine k_iload_n (pc := 249) C dX7_goes_249 rfl ?_
          refine k_ialdX (pc := 250) (j := j) C (nI_clamp (by omega)) (by decide +kernel) rfl (vp_in_nI (show _ < (6 : Nat) by omega) (show (6 : Nat) < 2 ^ 31 by decide)) dX7_goes_250 ?_
          refine k_sx (x := 0) (Eq.trans (k_uk (by decide)) (k_uis)) ?_
          refine k_isub (pc := 251) C dX7_goes_251 ?_
          refine k_sx (x := 1) (by decide) ?_
          refine k_iadd (pc := 252) C dX7_goes_252 ?_
          refine k_putI (pc := 253) C pl_X7_227 k_in7 rfl rfl dX7_goes_253 ?_
          refine k_iinc_1 (pc := 256) (v := nI (j + 1)) C dX7_goes_256 (k_inc j) rfl ?_
          refine k_goto (pc := 259) C 60 dX7_goes_259 (by decide) ?_
          refine k_drop_2 ?_
          exact k_cast rfl (by rw [f_X7_go2_s, if_neg c89, if_neg c103]) rfl hk
      · skip
        refine k_goto (pc := 92) C 256 dX7_goes_92 (by decide) ?_
        refine k_iinc_1 (pc := 256) (v := nI (j + 1)) C dX7_goes_256 (k_inc j) rfl ?_
        refine k_goto (pc := 259) C 60 dX7_goes_259 (by decide) ?_
        exact k_cast rfl (by rw [f_X7_go2_s, if_pos c89]) rfl hk
  · skip
    try dsimp only at hk
    have hmj : k_mo nC nB (f_X7_go1 (k_ui (k_ui mi (7, 0, 0) 42 0) (7, 0, 0) 43 0) j) := mo_go1 (k_mo_ui (k_mo_ui hm (by simp) (by simp)) (by simp) (by simp)) j
    refine k_iload_n (pc := 12) C dX7_goes_12 rfl ?_
    refine k_aload_n (pc := 13) C dX7_goes_13 rfl ?_
    refine k_getI (pc := 14) C fl_X7_129 k_in7 rfl rfl dX7_goes_14 ?_
    refine k_icmp_geF (pc := 17) C 58 dX7_goes_17 (by decide) (k_ngeC hmj.1 h6 hj) ?_
    refine k_aload_n (pc := 20) C dX7_goes_20 rfl ?_
    refine k_getR (pc := 21) (r := some (8, 36, 0)) C fl_X7_96 k_in7 rfl rfl rfl dX7_goes_21 ?_
    refine k_iload_n (pc := 24) C dX7_goes_24 rfl ?_
    refine k_aload_n (pc := 25) C dX7_goes_25 rfl ?_
    refine k_iload_n (pc := 26) C dX7_goes_26 rfl ?_
    refine k_call1 (pc := 27) C cv_X7_146 (ct_X7_face (vp_in_nI (show _ < (6 : Nat) by omega) (show (6 : Nat) < 2 ^ 31 by decide))) k_in7 rfl (by decide) rfl (Nat.le_of_ble_eq_true rfl) dX7_goes_27 ?_
    refine k_iastX (pc := 30) (j := j) C (nI_clamp (by omega)) (by decide +kernel) rfl (vp_in_nI (show _ < (6 : Nat) by omega) (show (6 : Nat) < 2 ^ 31 by decide)) dX7_goes_30 ?_
    refine k_aload_n (pc := 31) C dX7_goes_31 rfl ?_
    refine k_getR (pc := 32) (r := some (8, 38, 0)) C fl_X7_102 k_in7 rfl rfl rfl dX7_goes_32 ?_
    refine k_iload_n (pc := 35) C dX7_goes_35 rfl ?_
    refine k_iconst (pc := 36) (v := 0) C dX7_goes_36 (by decide) ?_
    refine k_iastX (pc := 37) (j := j) C (nI_clamp (by omega)) (by decide +kernel) rfl (vp_in_nI (show _ < (6 : Nat) by omega) (show (6 : Nat) < 2 ^ 31 by decide)) dX7_goes_37 ?_
    refine k_aload_n (pc := 38) C dX7_goes_38 rfl ?_
    refine k_getR (pc := 39) (r := some (8, 39, 0)) C fl_X7_105 k_in7 rfl rfl rfl dX7_goes_39 ?_
    refine k_iload_n (pc := 42) C dX7_goes_42 rfl ?_
    refine k_iconst (pc := 43) (v := 0) C dX7_goes_43 (by decide) ?_
    refine k_iastX (pc := 44) (j := j) C (nI_clamp (by omega)) (by decide +kernel) rfl (vp_in_nI (show _ < (6 : Nat) by omega) (show (6 : Nat) < 2 ^ 31 by decide)) dX7_goes_44 ?_
    refine k_aload_n (pc := 45) C dX7_goes_45 rfl ?_
    refine k_getR (pc := 46) (r := some (8, 40, 0)) C fl_X7_108 k_in7 rfl rfl rfl dX7_goes_46 ?_
    refine k_iload_n (pc := 49) C dX7_goes_49 rfl ?_
    refine k_iconst (pc := 50) (v := 0) C dX7_goes_50 (by decide) ?_
    refine k_iastX (pc := 51) (j := j) C (nI_clamp (by omega)) (by decide +kernel) rfl (vp_in_nI (show _ < (6 : Nat) by omega) (show (6 : Nat) < 2 ^ 31 by decide)) dX7_goes_51 ?_
    refine k_iinc_1 (pc := 52) (v := nI (j + 1)) C dX7_goes_52 (k_inc j) rfl ?_
    refine k_goto (pc := 55) C 12 dX7_goes_55 (by decide) ?_
    exact k_cast rfl (by rw [f_X7_go1_s]) rfl hk
theorem mo_goes {nC nB : Nat} {mi : MemI} (h : k_mo nC nB mi) : k_mo nC nB (f_X7_goes mi nC nB) :=
  mo_go2 (mo_go1 (k_mo_ui (k_mo_ui h (by simp) (by simp)) (by simp) (by simp)) nC) nB
def f_X7_ps2 (mi : MemI) : Nat → MemI
  | 0 => mi
  | j + 1 =>
    if ((f_X7_ps2 mi j) (8, 17, 0) j) = 1 then (f_X7_ps2 mi j)
    else if ((f_X7_ps2 mi j) (8, 37, 0) j) = (-1) then if ((f_X7_ps2 mi j) (8, 41, 0) j) = 1 then k_ui (f_X7_ps2 mi j) (8, 16, 0) j 0
        else if 99 ≤ ((f_X7_ps2 mi j) (8, 16, 0) j) then k_ui (f_X7_ps2 mi j) (8, 16, 0) j 99
          else k_ui (f_X7_ps2 mi j) (8, 16, 0) j (((f_X7_ps2 mi j) (8, 16, 0) j) + 1)
      else if ((f_X7_ps2 mi j) (8, 41, 0) j) = 1 then k_ui (k_ui (f_X7_ps2 mi j) (8, 15, 0) j ((f_X7_ps2 mi j) (8, 37, 0) j)) (8, 16, 0) j 0
        else if 99 ≤ ((f_X7_ps2 mi j) (8, 16, 0) j) then k_ui (k_ui (f_X7_ps2 mi j) (8, 15, 0) j ((f_X7_ps2 mi j) (8, 37, 0) j)) (8, 16, 0) j 99
          else k_ui (k_ui (f_X7_ps2 mi j) (8, 15, 0) j ((f_X7_ps2 mi j) (8, 37, 0) j)) (8, 16, 0) j (((f_X7_ps2 mi j) (8, 16, 0) j) + 1)
theorem f_X7_ps2_s (mi : MemI) (j : Nat) : f_X7_ps2 mi (j + 1) =
    if ((f_X7_ps2 mi j) (8, 17, 0) j) = 1 then (f_X7_ps2 mi j)
    else if ((f_X7_ps2 mi j) (8, 37, 0) j) = (-1) then if ((f_X7_ps2 mi j) (8, 41, 0) j) = 1 then k_ui (f_X7_ps2 mi j) (8, 16, 0) j 0
        else if 99 ≤ ((f_X7_ps2 mi j) (8, 16, 0) j) then k_ui (f_X7_ps2 mi j) (8, 16, 0) j 99
          else k_ui (f_X7_ps2 mi j) (8, 16, 0) j (((f_X7_ps2 mi j) (8, 16, 0) j) + 1)
      else if ((f_X7_ps2 mi j) (8, 41, 0) j) = 1 then k_ui (k_ui (f_X7_ps2 mi j) (8, 15, 0) j ((f_X7_ps2 mi j) (8, 37, 0) j)) (8, 16, 0) j 0
        else if 99 ≤ ((f_X7_ps2 mi j) (8, 16, 0) j) then k_ui (k_ui (f_X7_ps2 mi j) (8, 15, 0) j ((f_X7_ps2 mi j) (8, 37, 0) j)) (8, 16, 0) j 99
          else k_ui (k_ui (f_X7_ps2 mi j) (8, 15, 0) j ((f_X7_ps2 mi j) (8, 37, 0) j)) (8, 16, 0) j (((f_X7_ps2 mi j) (8, 16, 0) j) + 1) := rfl
theorem ps2_fr {mi : MemI} {k : Ky} (h1 : k ≠ (8, 15, 0)) (h2 : k ≠ (8, 16, 0)) : ∀ j j', f_X7_ps2 mi j k j' = mi k j' := by
  intro j j'
  induction j with
  | zero => rfl
  | succ j ih =>
    rw [f_X7_ps2_s]
    repeat' split
    all_goals simp only [k_uk h1, k_uk h2, ih]
def f_X7_ps1 (mi : MemI) : Nat → MemI
  | 0 => mi
  | j + 1 =>
    if ((f_X7_ps1 mi j) (8, 38, 0) j) = 0 then if 2 ≤ ((f_X7_ps1 mi j) (8, 10, 0) j) then if 9 ≤ ((f_X7_ps1 mi j) (8, 11, 0) j) then k_ui (k_ui (f_X7_ps1 mi j) (8, 10, 0) j (((f_X7_ps1 mi j) (8, 10, 0) j) - 2)) (8, 11, 0) j (((f_X7_ps1 mi j) (8, 11, 0) j) + 0)
        else k_ui (k_ui (f_X7_ps1 mi j) (8, 10, 0) j (((f_X7_ps1 mi j) (8, 10, 0) j) - 2)) (8, 11, 0) j (((f_X7_ps1 mi j) (8, 11, 0) j) + 1)
      else if 9 ≤ ((f_X7_ps1 mi j) (8, 11, 0) j) then k_ui (k_ui (f_X7_ps1 mi j) (8, 10, 0) j 0) (8, 11, 0) j (((f_X7_ps1 mi j) (8, 11, 0) j) + 0)
        else k_ui (k_ui (f_X7_ps1 mi j) (8, 10, 0) j 0) (8, 11, 0) j (((f_X7_ps1 mi j) (8, 11, 0) j) + 1)
    else if (((f_X7_ps1 mi j) (8, 10, 0) j) + ((f_X7_ps1 mi j) (8, 40, 0) j)) ≤ 99 then k_ui (k_ui (f_X7_ps1 mi j) (8, 10, 0) j (((f_X7_ps1 mi j) (8, 10, 0) j) + ((f_X7_ps1 mi j) (8, 40, 0) j))) (8, 11, 0) j 0
      else k_ui (k_ui (f_X7_ps1 mi j) (8, 10, 0) j 99) (8, 11, 0) j 0
theorem f_X7_ps1_s (mi : MemI) (j : Nat) : f_X7_ps1 mi (j + 1) =
    if ((f_X7_ps1 mi j) (8, 38, 0) j) = 0 then if 2 ≤ ((f_X7_ps1 mi j) (8, 10, 0) j) then if 9 ≤ ((f_X7_ps1 mi j) (8, 11, 0) j) then k_ui (k_ui (f_X7_ps1 mi j) (8, 10, 0) j (((f_X7_ps1 mi j) (8, 10, 0) j) - 2)) (8, 11, 0) j (((f_X7_ps1 mi j) (8, 11, 0) j) + 0)
        else k_ui (k_ui (f_X7_ps1 mi j) (8, 10, 0) j (((f_X7_ps1 mi j) (8, 10, 0) j) - 2)) (8, 11, 0) j (((f_X7_ps1 mi j) (8, 11, 0) j) + 1)
      else if 9 ≤ ((f_X7_ps1 mi j) (8, 11, 0) j) then k_ui (k_ui (f_X7_ps1 mi j) (8, 10, 0) j 0) (8, 11, 0) j (((f_X7_ps1 mi j) (8, 11, 0) j) + 0)
        else k_ui (k_ui (f_X7_ps1 mi j) (8, 10, 0) j 0) (8, 11, 0) j (((f_X7_ps1 mi j) (8, 11, 0) j) + 1)
    else if (((f_X7_ps1 mi j) (8, 10, 0) j) + ((f_X7_ps1 mi j) (8, 40, 0) j)) ≤ 99 then k_ui (k_ui (f_X7_ps1 mi j) (8, 10, 0) j (((f_X7_ps1 mi j) (8, 10, 0) j) + ((f_X7_ps1 mi j) (8, 40, 0) j))) (8, 11, 0) j 0
      else k_ui (k_ui (f_X7_ps1 mi j) (8, 10, 0) j 99) (8, 11, 0) j 0 := rfl
theorem mo_ps1 {nC nB : Nat} {mi : MemI} (h : k_mo nC nB mi) : ∀ j, k_mo nC nB (f_X7_ps1 mi j) := by
  intro j
  induction j with
  | zero => exact h
  | succ j ih =>
    rw [f_X7_ps1_s]
    repeat' split
    all_goals repeat' first | exact ih | refine k_mo_ui ?_ (by simp) (by simp)
def f_X7_passes (mi : MemI) (nC : Nat) (nB : Nat) : MemI :=
  (k_ui (f_X7_ps2 (f_X7_ps1 (f_X7_goes mi nC nB) nC) nB) (7, 0, 0) 2 (((f_X7_ps2 (f_X7_ps1 (f_X7_goes mi nC nB) nC) nB) (7, 0, 0) 2) + 1))
set_option maxRecDepth 100000 in
set_option maxHeartbeats 4000000 in
theorem ct_X7_passes {mi : MemI} {ml : MemL} {nC : Nat} {nB : Nat} (hm : k_mo nC nB mi) : k_Ct k_KS k_R0 Mt_X7_passes 3 [vR (7, 0, 0)] mi ml (k_rt none (f_X7_passes mi nC nB) ml) := by
  refine k_ofV (L0 := [vR (7, 0, 0), vU]) (by decide +kernel) (Nat.le_of_ble_eq_true rfl) rfl rfl ?_
  intro p l e s m args below meth c D cy ad bs C
  have hC := hm.1
  have h6 := hm.2.1
  have hB := hm.2.2.1
  have h6b := hm.2.2.2.1
  refine k_aload_n (pc := 0) C dX7_passes_0 rfl ?_
  refine k_callv0 (pc := 1) C cv_X7_236 (ct_X7_goes hm) k_in7 rfl (by decide) rfl (Nat.le_of_ble_eq_true rfl) dX7_passes_1 ?_
  refine k_iconst (pc := 4) (v := 0) C dX7_passes_4 (by decide) ?_
  refine k_istore_1 (pc := 5) C dX7_passes_5 rfl ?_
  refine k_cast (L' := [vR (7, 0, 0), vI (nI 0)]) (mi' := f_X7_ps1 (f_X7_goes mi nC nB) 0) (ml' := ml) rfl rfl rfl ?_
  refine k_down (P := fun j => k_V p l e (k_rm 3) s m args below meth c D cy ad bs k_KS k_R0 0 0 (k_End below D cy ad bs k_KS k_R0 (k_rt none (f_X7_passes mi nC nB) ml) args s) (f_X7_ps1 (f_X7_goes mi nC nB) j) ml 6 [vR (7, 0, 0), vI (nI j)] []) nC ?_ (fun j hj hk => ?_)
  · skip
    have hmj : k_mo nC nB (f_X7_ps1 (f_X7_goes mi nC nB) nC) := mo_ps1 (mo_goes hm) nC
    refine k_iload_n (pc := 6) C dX7_passes_6 rfl ?_
    refine k_aload_n (pc := 7) C dX7_passes_7 rfl ?_
    refine k_getI (pc := 8) C fl_X7_129 k_in7 rfl rfl dX7_passes_8 ?_
    refine k_icmp_geT (pc := 11) C 134 dX7_passes_11 (by decide) (k_leC hmj.1) ?_
    refine k_iconst (pc := 134) (v := 0) C dX7_passes_134 (by decide) ?_
    refine k_istore_1 (pc := 135) C dX7_passes_135 rfl ?_
    refine k_cast (L' := [vR (7, 0, 0), vI (nI 0)]) (mi' := f_X7_ps2 (f_X7_ps1 (f_X7_goes mi nC nB) nC) 0) (ml' := ml) rfl rfl rfl ?_
    refine k_down (P := fun j => k_V p l e (k_rm 3) s m args below meth c D cy ad bs k_KS k_R0 0 0 (k_End below D cy ad bs k_KS k_R0 (k_rt none (f_X7_passes mi nC nB) ml) args s) (f_X7_ps2 (f_X7_ps1 (f_X7_goes mi nC nB) nC) j) ml 136 [vR (7, 0, 0), vI (nI j)] []) nB ?_ (fun j hj hk => ?_)
    · skip
      have hmj : (f_X7_ps2 (f_X7_ps1 (f_X7_goes mi nC nB) nC) nB) (7, 0, 0) 1 = nI nB := (ps2_fr (by decide) (by decide) nB 1).trans (mo_ps1 (mo_goes hm) nC).2.2.1
      refine k_iload_n (pc := 136) C dX7_passes_136 rfl ?_
      refine k_aload_n (pc := 137) C dX7_passes_137 rfl ?_
      refine k_getI (pc := 138) C fl_X7_132 k_in7 rfl rfl dX7_passes_138 ?_
      refine k_icmp_geT (pc := 141) C 229 dX7_passes_141 (by decide) (k_leC hmj) ?_
      refine k_aload_n (pc := 229) C dX7_passes_229 rfl ?_
      refine k_dup (pc := 230) C dX7_passes_230 rfl ?_
      refine k_getI (pc := 231) C fl_X7_207 k_in7 rfl rfl dX7_passes_231 ?_
      refine k_iconst (pc := 234) (v := 1) C dX7_passes_234 (by decide) ?_
      refine k_iadd (pc := 235) C dX7_passes_235 ?_
      refine k_putI (pc := 236) C pl_X7_207 k_in7 rfl rfl dX7_passes_236 ?_
      exact k_vret (pc := 239) C rfl (k_fm (by unfold f_X7_passes; try rfl)) dX7_passes_239
    · skip
      try dsimp only at hk
      have hmj : (f_X7_ps2 (f_X7_ps1 (f_X7_goes mi nC nB) nC) j) (7, 0, 0) 1 = nI nB := (ps2_fr (by decide) (by decide) j 1).trans (mo_ps1 (mo_goes hm) nC).2.2.1
      refine k_iload_n (pc := 136) C dX7_passes_136 rfl ?_
      refine k_aload_n (pc := 137) C dX7_passes_137 rfl ?_
      refine k_getI (pc := 138) C fl_X7_132 k_in7 rfl rfl dX7_passes_138 ?_
      refine k_icmp_geF (pc := 141) C 229 dX7_passes_141 (by decide) (k_ngeC hmj h6b hj) ?_
      refine k_aload_n (pc := 144) C dX7_passes_144 rfl ?_
      refine k_getR (pc := 145) (r := some (8, 17, 0)) C fl_X7_53 k_in7 rfl rfl rfl dX7_passes_145 ?_
      refine k_iload_n (pc := 148) C dX7_passes_148 rfl ?_
      refine k_ialdX (pc := 149) (j := j) C (nI_clamp (by omega)) (by decide +kernel) rfl (vp_in_nI (show _ < (6 : Nat) by omega) (show (6 : Nat) < 2 ^ 31 by decide)) dX7_passes_149 ?_
      refine k_iconst (pc := 150) (v := 1) C dX7_passes_150 (by decide) ?_
      refine k_icmp_ne (pc := 151) C 157 dX7_passes_151 (by decide) (fun c151 => ?_) (fun c151 => ?_)
      · skip
        refine k_aload_n (pc := 157) C dX7_passes_157 rfl ?_
        refine k_getR (pc := 158) (r := some (8, 37, 0)) C fl_X7_99 k_in7 rfl rfl rfl dX7_passes_158 ?_
        refine k_iload_n (pc := 161) C dX7_passes_161 rfl ?_
        refine k_ialdX (pc := 162) (j := j) C (nI_clamp (by omega)) (by decide +kernel) rfl (vp_in_nI (show _ < (6 : Nat) by omega) (show (6 : Nat) < 2 ^ 31 by decide)) dX7_passes_162 ?_
        refine k_iconst (pc := 163) (v := (-1)) C dX7_passes_163 (by decide) ?_
        refine k_icmp_eq (pc := 164) C 179 dX7_passes_164 (by decide) (fun c164 => ?_) (fun c164 => ?_)
        · skip
          refine k_aload_n (pc := 179) C dX7_passes_179 rfl ?_
          refine k_getR (pc := 180) (r := some (8, 16, 0)) C fl_X7_50 k_in7 rfl rfl rfl dX7_passes_180 ?_
          refine k_iload_n (pc := 183) C dX7_passes_183 rfl ?_
          refine k_aload_n (pc := 184) C dX7_passes_184 rfl ?_
          refine k_getR (pc := 185) (r := some (8, 41, 0)) C fl_X7_111 k_in7 rfl rfl rfl dX7_passes_185 ?_
          refine k_iload_n (pc := 188) C dX7_passes_188 rfl ?_
          refine k_ialdX (pc := 189) (j := j) C (nI_clamp (by omega)) (by decide +kernel) rfl (vp_in_nI (show _ < (6 : Nat) by omega) (show (6 : Nat) < 2 ^ 31 by decide)) dX7_passes_189 ?_
          refine k_iconst (pc := 190) (v := 1) C dX7_passes_190 (by decide) ?_
          refine k_icmp_ne (pc := 191) C 198 dX7_passes_191 (by decide) (fun c191 => ?_) (fun c191 => ?_)
          · skip
            refine k_aload_n (pc := 198) C dX7_passes_198 rfl ?_
            refine k_getR (pc := 199) (r := some (8, 16, 0)) C fl_X7_50 k_in7 rfl rfl rfl dX7_passes_199 ?_
            refine k_iload_n (pc := 202) C dX7_passes_202 rfl ?_
            refine k_ialdX (pc := 203) (j := j) C (nI_clamp (by omega)) (by decide +kernel) rfl (vp_in_nI (show _ < (6 : Nat) by omega) (show (6 : Nat) < 2 ^ 31 by decide)) dX7_passes_203 ?_
            refine k_bipush (pc := 204) (v := 99) C dX7_passes_204 (by decide) ?_
            refine k_icmp_ge (pc := 206) C 220 dX7_passes_206 (by decide) (fun c206 => ?_) (fun c206 => ?_)
            · skip
              refine k_bipush (pc := 220) (v := 99) C dX7_passes_220 (by decide) ?_
              refine k_iastX (pc := 222) (j := j) C (nI_clamp (by omega)) (by decide +kernel) rfl (vp_in_nI (show _ < (6 : Nat) by omega) (show (6 : Nat) < 2 ^ 31 by decide)) dX7_passes_222 ?_
              refine k_iinc_1 (pc := 223) (v := nI (j + 1)) C dX7_passes_223 (k_inc j) rfl ?_
              refine k_goto (pc := 226) C 136 dX7_passes_226 (by decide) ?_
              exact k_cast rfl (by rw [f_X7_ps2_s, if_neg c151, if_pos c164, if_neg c191, if_pos c206]) rfl hk
            · skip
              refine k_aload_n (pc := 209) C dX7_passes_209 rfl ?_
              refine k_getR (pc := 210) (r := some (8, 16, 0)) C fl_X7_50 k_in7 rfl rfl rfl dX7_passes_210 ?_
              refine k_iload_n (pc := 213) C dX7_passes_213 rfl ?_
              refine k_ialdX (pc := 214) (j := j) C (nI_clamp (by omega)) (by decide +kernel) rfl (vp_in_nI (show _ < (6 : Nat) by omega) (show (6 : Nat) < 2 ^ 31 by decide)) dX7_passes_214 ?_
              refine k_iconst (pc := 215) (v := 1) C dX7_passes_215 (by decide) ?_
              refine k_iadd (pc := 216) C dX7_passes_216 ?_
              refine k_goto (pc := 217) C 222 dX7_passes_217 (by decide) ?_
              refine k_iastX (pc := 222) (j := j) C (nI_clamp (by omega)) (by decide +kernel) rfl (vp_in_nI (show _ < (6 : Nat) by omega) (show (6 : Nat) < 2 ^ 31 by decide)) dX7_passes_222 ?_
              refine k_iinc_1 (pc := 223) (v := nI (j + 1)) C dX7_passes_223 (k_inc j) rfl ?_
              refine k_goto (pc := 226) C 136 dX7_passes_226 (by decide) ?_
              exact k_cast rfl (by rw [f_X7_ps2_s, if_neg c151, if_pos c164, if_neg c191, if_neg c206]) rfl hk
          · skip
            refine k_iconst (pc := 194) (v := 0) C dX7_passes_194 (by decide) ?_
            refine k_goto (pc := 195) C 222 dX7_passes_195 (by decide) ?_
            refine k_iastX (pc := 222) (j := j) C (nI_clamp (by omega)) (by decide +kernel) rfl (vp_in_nI (show _ < (6 : Nat) by omega) (show (6 : Nat) < 2 ^ 31 by decide)) dX7_passes_222 ?_
            refine k_iinc_1 (pc := 223) (v := nI (j + 1)) C dX7_passes_223 (k_inc j) rfl ?_
            refine k_goto (pc := 226) C 136 dX7_passes_226 (by decide) ?_
            exact k_cast rfl (by rw [f_X7_ps2_s, if_neg c151, if_pos c164, if_pos c191]) rfl hk
        · skip
          refine k_aload_n (pc := 167) C dX7_passes_167 rfl ?_
          refine k_getR (pc := 168) (r := some (8, 15, 0)) C fl_X7_47 k_in7 rfl rfl rfl dX7_passes_168 ?_
          refine k_iload_n (pc := 171) C dX7_passes_171 rfl ?_
          refine k_aload_n (pc := 172) C dX7_passes_172 rfl ?_
          refine k_getR (pc := 173) (r := some (8, 37, 0)) C fl_X7_99 k_in7 rfl rfl rfl dX7_passes_173 ?_
          refine k_iload_n (pc := 176) C dX7_passes_176 rfl ?_
          refine k_ialdX (pc := 177) (j := j) C (nI_clamp (by omega)) (by decide +kernel) rfl (vp_in_nI (show _ < (6 : Nat) by omega) (show (6 : Nat) < 2 ^ 31 by decide)) dX7_passes_177 ?_
          refine k_iastX (pc := 178) (j := j) C (nI_clamp (by omega)) (by decide +kernel) rfl (vp_in_nI (show _ < (6 : Nat) by omega) (show (6 : Nat) < 2 ^ 31 by decide)) dX7_passes_178 ?_
          refine k_aload_n (pc := 179) C dX7_passes_179 rfl ?_
          refine k_getR (pc := 180) (r := some (8, 16, 0)) C fl_X7_50 k_in7 rfl rfl rfl dX7_passes_180 ?_
          refine k_iload_n (pc := 183) C dX7_passes_183 rfl ?_
          refine k_aload_n (pc := 184) C dX7_passes_184 rfl ?_
          refine k_getR (pc := 185) (r := some (8, 41, 0)) C fl_X7_111 k_in7 rfl rfl rfl dX7_passes_185 ?_
          refine k_iload_n (pc := 188) C dX7_passes_188 rfl ?_
          refine k_ialdX (pc := 189) (j := j) C (nI_clamp (by omega)) (by decide +kernel) rfl (vp_in_nI (show _ < (6 : Nat) by omega) (show (6 : Nat) < 2 ^ 31 by decide)) dX7_passes_189 ?_
          refine k_sx (x := (f_X7_ps2 (f_X7_ps1 (f_X7_goes mi nC nB) nC) j) (8, 41, 0) j) (k_uk (by decide)) ?_
          refine k_iconst (pc := 190) (v := 1) C dX7_passes_190 (by decide) ?_
          refine k_icmp_ne (pc := 191) C 198 dX7_passes_191 (by decide) (fun c191 => ?_) (fun c191 => ?_)
          · skip
            refine k_aload_n (pc := 198) C dX7_passes_198 rfl ?_
            refine k_getR (pc := 199) (r := some (8, 16, 0)) C fl_X7_50 k_in7 rfl rfl rfl dX7_passes_199 ?_
            refine k_iload_n (pc := 202) C dX7_passes_202 rfl ?_
            refine k_ialdX (pc := 203) (j := j) C (nI_clamp (by omega)) (by decide +kernel) rfl (vp_in_nI (show _ < (6 : Nat) by omega) (show (6 : Nat) < 2 ^ 31 by decide)) dX7_passes_203 ?_
            refine k_sx (x := (f_X7_ps2 (f_X7_ps1 (f_X7_goes mi nC nB) nC) j) (8, 16, 0) j) (k_uk (by decide)) ?_
            refine k_bipush (pc := 204) (v := 99) C dX7_passes_204 (by decide) ?_
            refine k_icmp_ge (pc := 206) C 220 dX7_passes_206 (by decide) (fun c206 => ?_) (fun c206 => ?_)
            · skip
              refine k_bipush (pc := 220) (v := 99) C dX7_passes_220 (by decide) ?_
              refine k_iastX (pc := 222) (j := j) C (nI_clamp (by omega)) (by decide +kernel) rfl (vp_in_nI (show _ < (6 : Nat) by omega) (show (6 : Nat) < 2 ^ 31 by decide)) dX7_passes_222 ?_
              refine k_iinc_1 (pc := 223) (v := nI (j + 1)) C dX7_passes_223 (k_inc j) rfl ?_
              refine k_goto (pc := 226) C 136 dX7_passes_226 (by decide) ?_
              exact k_cast rfl (by rw [f_X7_ps2_s, if_neg c151, if_neg c164, if_neg c191, if_pos c206]) rfl hk
            · skip
              refine k_aload_n (pc := 209) C dX7_passes_209 rfl ?_
              refine k_getR (pc := 210) (r := some (8, 16, 0)) C fl_X7_50 k_in7 rfl rfl rfl dX7_passes_210 ?_
              refine k_iload_n (pc := 213) C dX7_passes_213 rfl ?_
              refine k_ialdX (pc := 214) (j := j) C (nI_clamp (by omega)) (by decide +kernel) rfl (vp_in_nI (show _ < (6 : Nat) by omega) (show (6 : Nat) < 2 ^ 31 by decide)) dX7_passes_214 ?_
              refine k_sx (x := (f_X7_ps2 (f_X7_ps1 (f_X7_goes mi nC nB) nC) j) (8, 16, 0) j) (k_uk (by decide)) ?_
              refine k_iconst (pc := 215) (v := 1) C dX7_passes_215 (by decide) ?_
              refine k_iadd (pc := 216) C dX7_passes_216 ?_
              refine k_goto (pc := 217) C 222 dX7_passes_217 (by decide) ?_
              refine k_iastX (pc := 222) (j := j) C (nI_clamp (by omega)) (by decide +kernel) rfl (vp_in_nI (show _ < (6 : Nat) by omega) (show (6 : Nat) < 2 ^ 31 by decide)) dX7_passes_222 ?_
              refine k_iinc_1 (pc := 223) (v := nI (j + 1)) C dX7_passes_223 (k_inc j) rfl ?_
              refine k_goto (pc := 226) C 136 dX7_passes_226 (by decide) ?_
              exact k_cast rfl (by rw [f_X7_ps2_s, if_neg c151, if_neg c164, if_neg c191, if_neg c206]) rfl hk
          · skip
            refine k_iconst (pc := 194) (v := 0) C dX7_passes_194 (by decide) ?_
            refine k_goto (pc := 195) C 222 dX7_passes_195 (by decide) ?_
            refine k_iastX (pc := 222) (j := j) C (nI_clamp (by omega)) (by decide +kernel) rfl (vp_in_nI (show _ < (6 : Nat) by omega) (show (6 : Nat) < 2 ^ 31 by decide)) dX7_passes_222 ?_
            refine k_iinc_1 (pc := 223) (v := nI (j + 1)) C dX7_passes_223 (k_inc j) rfl ?_
            refine k_goto (pc := 226) C 136 dX7_passes_226 (by decide) ?_
            exact k_cast rfl (by rw [f_X7_ps2_s, if_neg c151, if_neg c164, if_pos c191]) rfl hk
      · skip
        refine k_goto (pc := 154) C 223 dX7_passes_154 (by decide) ?_
        refine k_iinc_1 (pc := 223) (v := nI (j + 1)) C dX7_passes_223 (k_inc j) rfl ?_
        refine k_goto (pc := 226) C 136 dX7_passes_226 (by decide) ?_
        exact k_cast rfl (by rw [f_X7_ps2_s, if_pos c151]) rfl hk
  · skip
    try dsimp only at hk
    have hmj : k_mo nC nB (f_X7_ps1 (f_X7_goes mi nC nB) j) := mo_ps1 (mo_goes hm) j
    refine k_iload_n (pc := 6) C dX7_passes_6 rfl ?_
    refine k_aload_n (pc := 7) C dX7_passes_7 rfl ?_
    refine k_getI (pc := 8) C fl_X7_129 k_in7 rfl rfl dX7_passes_8 ?_
    refine k_icmp_geF (pc := 11) C 134 dX7_passes_11 (by decide) (k_ngeC hmj.1 h6 hj) ?_
    refine k_aload_n (pc := 14) C dX7_passes_14 rfl ?_
    refine k_getR (pc := 15) (r := some (8, 38, 0)) C fl_X7_102 k_in7 rfl rfl rfl dX7_passes_15 ?_
    refine k_iload_n (pc := 18) C dX7_passes_18 rfl ?_
    refine k_ialdX (pc := 19) (j := j) C (nI_clamp (by omega)) (by decide +kernel) rfl (vp_in_nI (show _ < (6 : Nat) by omega) (show (6 : Nat) < 2 ^ 31 by decide)) dX7_passes_19 ?_
    refine k_if_ne (pc := 20) C 79 dX7_passes_20 (by decide) (fun c20 => ?_) (fun c20 => ?_)
    · skip
      refine k_aload_n (pc := 79) C dX7_passes_79 rfl ?_
      refine k_getR (pc := 80) (r := some (8, 10, 0)) C fl_X7_32 k_in7 rfl rfl rfl dX7_passes_80 ?_
      refine k_iload_n (pc := 83) C dX7_passes_83 rfl ?_
      refine k_aload_n (pc := 84) C dX7_passes_84 rfl ?_
      refine k_getR (pc := 85) (r := some (8, 10, 0)) C fl_X7_32 k_in7 rfl rfl rfl dX7_passes_85 ?_
      refine k_iload_n (pc := 88) C dX7_passes_88 rfl ?_
      refine k_ialdX (pc := 89) (j := j) C (nI_clamp (by omega)) (by decide +kernel) rfl (vp_in_nI (show _ < (6 : Nat) by omega) (show (6 : Nat) < 2 ^ 31 by decide)) dX7_passes_89 ?_
      refine k_aload_n (pc := 90) C dX7_passes_90 rfl ?_
      refine k_getR (pc := 91) (r := some (8, 40, 0)) C fl_X7_108 k_in7 rfl rfl rfl dX7_passes_91 ?_
      refine k_iload_n (pc := 94) C dX7_passes_94 rfl ?_
      refine k_ialdX (pc := 95) (j := j) C (nI_clamp (by omega)) (by decide +kernel) rfl (vp_in_nI (show _ < (6 : Nat) by omega) (show (6 : Nat) < 2 ^ 31 by decide)) dX7_passes_95 ?_
      refine k_iadd (pc := 96) C dX7_passes_96 ?_
      refine k_bipush (pc := 97) (v := 99) C dX7_passes_97 (by decide) ?_
      refine k_icmp_le (pc := 99) C 107 dX7_passes_99 (by decide) (fun c99 => ?_) (fun c99 => ?_)
      · skip
        refine k_aload_n (pc := 107) C dX7_passes_107 rfl ?_
        refine k_getR (pc := 108) (r := some (8, 10, 0)) C fl_X7_32 k_in7 rfl rfl rfl dX7_passes_108 ?_
        refine k_iload_n (pc := 111) C dX7_passes_111 rfl ?_
        refine k_ialdX (pc := 112) (j := j) C (nI_clamp (by omega)) (by decide +kernel) rfl (vp_in_nI (show _ < (6 : Nat) by omega) (show (6 : Nat) < 2 ^ 31 by decide)) dX7_passes_112 ?_
        refine k_aload_n (pc := 113) C dX7_passes_113 rfl ?_
        refine k_getR (pc := 114) (r := some (8, 40, 0)) C fl_X7_108 k_in7 rfl rfl rfl dX7_passes_114 ?_
        refine k_iload_n (pc := 117) C dX7_passes_117 rfl ?_
        refine k_ialdX (pc := 118) (j := j) C (nI_clamp (by omega)) (by decide +kernel) rfl (vp_in_nI (show _ < (6 : Nat) by omega) (show (6 : Nat) < 2 ^ 31 by decide)) dX7_passes_118 ?_
        refine k_iadd (pc := 119) C dX7_passes_119 ?_
        refine k_iastX (pc := 120) (j := j) C (nI_clamp (by omega)) (by decide +kernel) rfl (vp_in_nI (show _ < (6 : Nat) by omega) (show (6 : Nat) < 2 ^ 31 by decide)) dX7_passes_120 ?_
        refine k_aload_n (pc := 121) C dX7_passes_121 rfl ?_
        refine k_getR (pc := 122) (r := some (8, 11, 0)) C fl_X7_35 k_in7 rfl rfl rfl dX7_passes_122 ?_
        refine k_iload_n (pc := 125) C dX7_passes_125 rfl ?_
        refine k_iconst (pc := 126) (v := 0) C dX7_passes_126 (by decide) ?_
        refine k_iastX (pc := 127) (j := j) C (nI_clamp (by omega)) (by decide +kernel) rfl (vp_in_nI (show _ < (6 : Nat) by omega) (show (6 : Nat) < 2 ^ 31 by decide)) dX7_passes_127 ?_
        refine k_iinc_1 (pc := 128) (v := nI (j + 1)) C dX7_passes_128 (k_inc j) rfl ?_
        refine k_goto (pc := 131) C 6 dX7_passes_131 (by decide) ?_
        exact k_cast rfl (by rw [f_X7_ps1_s, if_neg c20, if_pos c99]) rfl hk
      · skip
        refine k_bipush (pc := 102) (v := 99) C dX7_passes_102 (by decide) ?_
        refine k_goto (pc := 104) C 120 dX7_passes_104 (by decide) ?_
        refine k_iastX (pc := 120) (j := j) C (nI_clamp (by omega)) (by decide +kernel) rfl (vp_in_nI (show _ < (6 : Nat) by omega) (show (6 : Nat) < 2 ^ 31 by decide)) dX7_passes_120 ?_
        refine k_aload_n (pc := 121) C dX7_passes_121 rfl ?_
        refine k_getR (pc := 122) (r := some (8, 11, 0)) C fl_X7_35 k_in7 rfl rfl rfl dX7_passes_122 ?_
        refine k_iload_n (pc := 125) C dX7_passes_125 rfl ?_
        refine k_iconst (pc := 126) (v := 0) C dX7_passes_126 (by decide) ?_
        refine k_iastX (pc := 127) (j := j) C (nI_clamp (by omega)) (by decide +kernel) rfl (vp_in_nI (show _ < (6 : Nat) by omega) (show (6 : Nat) < 2 ^ 31 by decide)) dX7_passes_127 ?_
        refine k_iinc_1 (pc := 128) (v := nI (j + 1)) C dX7_passes_128 (k_inc j) rfl ?_
        refine k_goto (pc := 131) C 6 dX7_passes_131 (by decide) ?_
        exact k_cast rfl (by rw [f_X7_ps1_s, if_neg c20, if_neg c99]) rfl hk
    · skip
      refine k_aload_n (pc := 23) C dX7_passes_23 rfl ?_
      refine k_getR (pc := 24) (r := some (8, 10, 0)) C fl_X7_32 k_in7 rfl rfl rfl dX7_passes_24 ?_
      refine k_iload_n (pc := 27) C dX7_passes_27 rfl ?_
      refine k_aload_n (pc := 28) C dX7_passes_28 rfl ?_
      refine k_getR (pc := 29) (r := some (8, 10, 0)) C fl_X7_32 k_in7 rfl rfl rfl dX7_passes_29 ?_
      refine k_iload_n (pc := 32) C dX7_passes_32 rfl ?_
      refine k_ialdX (pc := 33) (j := j) C (nI_clamp (by omega)) (by decide +kernel) rfl (vp_in_nI (show _ < (6 : Nat) by omega) (show (6 : Nat) < 2 ^ 31 by decide)) dX7_passes_33 ?_
      refine k_iconst (pc := 34) (v := 2) C dX7_passes_34 (by decide) ?_
      refine k_icmp_ge (pc := 35) C 42 dX7_passes_35 (by decide) (fun c35 => ?_) (fun c35 => ?_)
      · skip
        refine k_aload_n (pc := 42) C dX7_passes_42 rfl ?_
        refine k_getR (pc := 43) (r := some (8, 10, 0)) C fl_X7_32 k_in7 rfl rfl rfl dX7_passes_43 ?_
        refine k_iload_n (pc := 46) C dX7_passes_46 rfl ?_
        refine k_ialdX (pc := 47) (j := j) C (nI_clamp (by omega)) (by decide +kernel) rfl (vp_in_nI (show _ < (6 : Nat) by omega) (show (6 : Nat) < 2 ^ 31 by decide)) dX7_passes_47 ?_
        refine k_iconst (pc := 48) (v := 2) C dX7_passes_48 (by decide) ?_
        refine k_isub (pc := 49) C dX7_passes_49 ?_
        refine k_iastX (pc := 50) (j := j) C (nI_clamp (by omega)) (by decide +kernel) rfl (vp_in_nI (show _ < (6 : Nat) by omega) (show (6 : Nat) < 2 ^ 31 by decide)) dX7_passes_50 ?_
        refine k_aload_n (pc := 51) C dX7_passes_51 rfl ?_
        refine k_getR (pc := 52) (r := some (8, 11, 0)) C fl_X7_35 k_in7 rfl rfl rfl dX7_passes_52 ?_
        refine k_iload_n (pc := 55) C dX7_passes_55 rfl ?_
        refine k_dup2 (pc := 56) C dX7_passes_56 rfl rfl ?_
        refine k_ialdX (pc := 57) (j := j) C (nI_clamp (by omega)) (by decide +kernel) rfl (vp_in_nI (show _ < (6 : Nat) by omega) (show (6 : Nat) < 2 ^ 31 by decide)) dX7_passes_57 ?_
        refine k_sx (x := (f_X7_ps1 (f_X7_goes mi nC nB) j) (8, 11, 0) j) (k_uk (by decide)) ?_
        refine k_aload_n (pc := 58) C dX7_passes_58 rfl ?_
        refine k_getR (pc := 59) (r := some (8, 11, 0)) C fl_X7_35 k_in7 rfl rfl rfl dX7_passes_59 ?_
        refine k_iload_n (pc := 62) C dX7_passes_62 rfl ?_
        refine k_ialdX (pc := 63) (j := j) C (nI_clamp (by omega)) (by decide +kernel) rfl (vp_in_nI (show _ < (6 : Nat) by omega) (show (6 : Nat) < 2 ^ 31 by decide)) dX7_passes_63 ?_
        refine k_sx (x := (f_X7_ps1 (f_X7_goes mi nC nB) j) (8, 11, 0) j) (k_uk (by decide)) ?_
        refine k_bipush (pc := 64) (v := 9) C dX7_passes_64 (by decide) ?_
        refine k_icmp_ge (pc := 66) C 73 dX7_passes_66 (by decide) (fun c66 => ?_) (fun c66 => ?_)
        · skip
          refine k_iconst (pc := 73) (v := 0) C dX7_passes_73 (by decide) ?_
          refine k_iadd (pc := 74) C dX7_passes_74 ?_
          refine k_iastX (pc := 75) (j := j) C (nI_clamp (by omega)) (by decide +kernel) rfl (vp_in_nI (show _ < (6 : Nat) by omega) (show (6 : Nat) < 2 ^ 31 by decide)) dX7_passes_75 ?_
          refine k_goto (pc := 76) C 128 dX7_passes_76 (by decide) ?_
          refine k_iinc_1 (pc := 128) (v := nI (j + 1)) C dX7_passes_128 (k_inc j) rfl ?_
          refine k_goto (pc := 131) C 6 dX7_passes_131 (by decide) ?_
          exact k_cast rfl (by rw [f_X7_ps1_s, if_pos c20, if_pos c35, if_pos c66]) rfl hk
        · skip
          refine k_iconst (pc := 69) (v := 1) C dX7_passes_69 (by decide) ?_
          refine k_goto (pc := 70) C 74 dX7_passes_70 (by decide) ?_
          refine k_iadd (pc := 74) C dX7_passes_74 ?_
          refine k_iastX (pc := 75) (j := j) C (nI_clamp (by omega)) (by decide +kernel) rfl (vp_in_nI (show _ < (6 : Nat) by omega) (show (6 : Nat) < 2 ^ 31 by decide)) dX7_passes_75 ?_
          refine k_goto (pc := 76) C 128 dX7_passes_76 (by decide) ?_
          refine k_iinc_1 (pc := 128) (v := nI (j + 1)) C dX7_passes_128 (k_inc j) rfl ?_
          refine k_goto (pc := 131) C 6 dX7_passes_131 (by decide) ?_
          exact k_cast rfl (by rw [f_X7_ps1_s, if_pos c20, if_pos c35, if_neg c66]) rfl hk
      · skip
        refine k_iconst (pc := 38) (v := 0) C dX7_passes_38 (by decide) ?_
        refine k_goto (pc := 39) C 50 dX7_passes_39 (by decide) ?_
        refine k_iastX (pc := 50) (j := j) C (nI_clamp (by omega)) (by decide +kernel) rfl (vp_in_nI (show _ < (6 : Nat) by omega) (show (6 : Nat) < 2 ^ 31 by decide)) dX7_passes_50 ?_
        refine k_aload_n (pc := 51) C dX7_passes_51 rfl ?_
        refine k_getR (pc := 52) (r := some (8, 11, 0)) C fl_X7_35 k_in7 rfl rfl rfl dX7_passes_52 ?_
        refine k_iload_n (pc := 55) C dX7_passes_55 rfl ?_
        refine k_dup2 (pc := 56) C dX7_passes_56 rfl rfl ?_
        refine k_ialdX (pc := 57) (j := j) C (nI_clamp (by omega)) (by decide +kernel) rfl (vp_in_nI (show _ < (6 : Nat) by omega) (show (6 : Nat) < 2 ^ 31 by decide)) dX7_passes_57 ?_
        refine k_sx (x := (f_X7_ps1 (f_X7_goes mi nC nB) j) (8, 11, 0) j) (k_uk (by decide)) ?_
        refine k_aload_n (pc := 58) C dX7_passes_58 rfl ?_
        refine k_getR (pc := 59) (r := some (8, 11, 0)) C fl_X7_35 k_in7 rfl rfl rfl dX7_passes_59 ?_
        refine k_iload_n (pc := 62) C dX7_passes_62 rfl ?_
        refine k_ialdX (pc := 63) (j := j) C (nI_clamp (by omega)) (by decide +kernel) rfl (vp_in_nI (show _ < (6 : Nat) by omega) (show (6 : Nat) < 2 ^ 31 by decide)) dX7_passes_63 ?_
        refine k_sx (x := (f_X7_ps1 (f_X7_goes mi nC nB) j) (8, 11, 0) j) (k_uk (by decide)) ?_
        refine k_bipush (pc := 64) (v := 9) C dX7_passes_64 (by decide) ?_
        refine k_icmp_ge (pc := 66) C 73 dX7_passes_66 (by decide) (fun c66 => ?_) (fun c66 => ?_)
        · skip
          refine k_iconst (pc := 73) (v := 0) C dX7_passes_73 (by decide) ?_
          refine k_iadd (pc := 74) C dX7_passes_74 ?_
          refine k_iastX (pc := 75) (j := j) C (nI_clamp (by omega)) (by decide +kernel) rfl (vp_in_nI (show _ < (6 : Nat) by omega) (show (6 : Nat) < 2 ^ 31 by decide)) dX7_passes_75 ?_
          refine k_goto (pc := 76) C 128 dX7_passes_76 (by decide) ?_
          refine k_iinc_1 (pc := 128) (v := nI (j + 1)) C dX7_passes_128 (k_inc j) rfl ?_
          refine k_goto (pc := 131) C 6 dX7_passes_131 (by decide) ?_
          exact k_cast rfl (by rw [f_X7_ps1_s, if_pos c20, if_neg c35, if_pos c66]) rfl hk
        · skip
          refine k_iconst (pc := 69) (v := 1) C dX7_passes_69 (by decide) ?_
          refine k_goto (pc := 70) C 74 dX7_passes_70 (by decide) ?_
          refine k_iadd (pc := 74) C dX7_passes_74 ?_
          refine k_iastX (pc := 75) (j := j) C (nI_clamp (by omega)) (by decide +kernel) rfl (vp_in_nI (show _ < (6 : Nat) by omega) (show (6 : Nat) < 2 ^ 31 by decide)) dX7_passes_75 ?_
          refine k_goto (pc := 76) C 128 dX7_passes_76 (by decide) ?_
          refine k_iinc_1 (pc := 128) (v := nI (j + 1)) C dX7_passes_128 (k_inc j) rfl ?_
          refine k_goto (pc := 131) C 6 dX7_passes_131 (by decide) ?_
          exact k_cast rfl (by rw [f_X7_ps1_s, if_pos c20, if_neg c35, if_neg c66]) rfl hk
/-- whom each picks is a citizen's number, or none -/
def k_pk (nC nB : Nat) (mi : MemI) : Prop := ∀ b, b < nB → mi (8, 37, 0) b = -1 ∨ vp_in (mi (8, 37, 0) b) nC
theorem bfL_lt {mi : MemI} {few lst : Int32} : ∀ n, f_X7_bfL mi few lst n < n ∨ ¬ f_X7_bfL mi few lst n < 6 := by
  intro n
  induction n with
  | zero => exact Or.inr (Nat.lt_irrefl 6)
  | succ n ih =>
    rw [f_X7_bfL_s]
    repeat' split
    all_goals omega
theorem blR_lt {mi : MemI} : ∀ u j x, f_X7_blR mi u j x < j + u ∨ ¬ f_X7_blR mi u j x < 6 := by
  intro u
  induction u with
  | zero => intro j x; exact Or.inr (Nat.lt_irrefl 6)
  | succ u ih =>
    intro j x
    rw [f_X7_blR_s]
    have h1 := ih (j + 1) x
    have h2 := ih (j + 1) (x + (-1))
    repeat' split
    all_goals omega
theorem picksBy_lt {mi : MemI} {b nC nB : Nat} {r : Int32} (hm : k_mo nC nB mi) (hb : b < nB) : f_X7_picksBy mi b r nC < nC ∨ ¬ f_X7_picksBy mi b r nC < 6 := by
  have hl := hm.2.2.2.2 b hb
  unfold f_X7_picksBy f_X7_blindly
  have h1 := blR_lt (mi := mi) nC 0
  have h2 := fun few lst => bfL_lt (mi := mi) (few := few) (lst := lst) nC
  repeat' split
  all_goals first
    | exact h2 _ _
    | exact Or.inr (by decide)
    | (have := h1 ((nI b) + (mi (7, 0, 0) 2) - ((nI b) + (mi (7, 0, 0) 2)) / (f_X7_bl1 mi nC) * (f_X7_bl1 mi nC)); omega)
    | exact Or.inl (k_clamp (k_lastin hl (by assumption)))
