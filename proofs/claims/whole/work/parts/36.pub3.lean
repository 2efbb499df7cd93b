/-! BeggarsChoose: the public methods with loops -/
def f_X6_bestL (mi : MemI) : Nat → Int32 × Int32 × MemI
  | 0 => ((-1), 0, mi)
  | j + 1 =>
    if (f_X0_comes ((f_X6_bestL mi j).2.2) 1 j) = 0 then (((f_X6_bestL mi j).1), ((f_X6_bestL mi j).2.1), (f_X6_bestL mi j).2.2)
    else if ((f_X6_bestL mi j).1) = (-1) then ((k_ui ((f_X2_hungryMorning (k_ui ((f_X6_bestL mi j).2.2) (0, 1, j) 2 1) 1).2) (0, 1, j) 2 0) (0, 1, j) 0, (f_X2_hungryMorning (k_ui ((f_X6_bestL mi j).2.2) (0, 1, j) 2 1) 1).1, k_ui ((f_X2_hungryMorning (k_ui ((f_X6_bestL mi j).2.2) (0, 1, j) 2 1) 1).2) (0, 1, j) 2 0)
      else if ((f_X6_bestL mi j).2.1) ≤ ((f_X2_hungryMorning (k_ui ((f_X6_bestL mi j).2.2) (0, 1, j) 2 1) 1).1) then (((f_X6_bestL mi j).1), ((f_X6_bestL mi j).2.1), k_ui ((f_X2_hungryMorning (k_ui ((f_X6_bestL mi j).2.2) (0, 1, j) 2 1) 1).2) (0, 1, j) 2 0)
        else ((k_ui ((f_X2_hungryMorning (k_ui ((f_X6_bestL mi j).2.2) (0, 1, j) 2 1) 1).2) (0, 1, j) 2 0) (0, 1, j) 0, (f_X2_hungryMorning (k_ui ((f_X6_bestL mi j).2.2) (0, 1, j) 2 1) 1).1, k_ui ((f_X2_hungryMorning (k_ui ((f_X6_bestL mi j).2.2) (0, 1, j) 2 1) 1).2) (0, 1, j) 2 0)
theorem f_X6_bestL_s (mi : MemI) (j : Nat) : f_X6_bestL mi  (j + 1) =
    if (f_X0_comes ((f_X6_bestL mi j).2.2) 1 j) = 0 then (((f_X6_bestL mi j).1), ((f_X6_bestL mi j).2.1), (f_X6_bestL mi j).2.2)
    else if ((f_X6_bestL mi j).1) = (-1) then ((k_ui ((f_X2_hungryMorning (k_ui ((f_X6_bestL mi j).2.2) (0, 1, j) 2 1) 1).2) (0, 1, j) 2 0) (0, 1, j) 0, (f_X2_hungryMorning (k_ui ((f_X6_bestL mi j).2.2) (0, 1, j) 2 1) 1).1, k_ui ((f_X2_hungryMorning (k_ui ((f_X6_bestL mi j).2.2) (0, 1, j) 2 1) 1).2) (0, 1, j) 2 0)
      else if ((f_X6_bestL mi j).2.1) ≤ ((f_X2_hungryMorning (k_ui ((f_X6_bestL mi j).2.2) (0, 1, j) 2 1) 1).1) then (((f_X6_bestL mi j).1), ((f_X6_bestL mi j).2.1), k_ui ((f_X2_hungryMorning (k_ui ((f_X6_bestL mi j).2.2) (0, 1, j) 2 1) 1).2) (0, 1, j) 2 0)
        else ((k_ui ((f_X2_hungryMorning (k_ui ((f_X6_bestL mi j).2.2) (0, 1, j) 2 1) 1).2) (0, 1, j) 2 0) (0, 1, j) 0, (f_X2_hungryMorning (k_ui ((f_X6_bestL mi j).2.2) (0, 1, j) 2 1) 1).1, k_ui ((f_X2_hungryMorning (k_ui ((f_X6_bestL mi j).2.2) (0, 1, j) 2 1) 1).2) (0, 1, j) 2 0) := rfl
def f_X6_best (mi : MemI) : Int32 × MemI :=
  (((f_X6_bestL (f_X2_become mi 1 0) 6).1), (f_X6_bestL (f_X2_become mi 1 0) 6).2.2)
set_option maxRecDepth 100000 in
set_option maxHeartbeats 4000000 in
theorem ct_X6_best {mi : MemI} {ml : MemL}  (hZ0 : k_zo 0 mi) : k_Ct k_KS k_R0 Mt_X6_best 5 [vR (6, 0, 0)] mi ml (k_rt (some (vI (f_X6_best mi).1)) (f_X6_best mi).2 ml) := by
  refine k_ofV (L0 := [vR (6, 0, 0), vU, vU, vU, vU, vU, vU, vU]) (by decide +kernel) (Nat.le_of_ble_eq_true rfl) rfl rfl ?_
  intro p l e s m args below meth c D cy ad bs C
  refine k_aload_n (pc := 0) C dX6_best_0 rfl ?_
  refine k_getR (pc := 1) (r := some (2, 1, 0)) C fl_X6_16 k_in6 rfl rfl rfl dX6_best_1 ?_
  refine k_aload_n (pc := 4) C dX6_best_4 rfl ?_
  refine k_getR (pc := 5) (r := some (2, 0, 0)) C fl_X6_10 k_in6 rfl rfl rfl dX6_best_5 ?_
  refine k_callv1 (pc := 8) C cv_X6_181 (ct_X2_become (by decide) (by decide) hZ0 (by decide)) (k_in2 (by decide)) rfl (by decide) rfl (Nat.le_of_ble_eq_true rfl) dX6_best_8 ?_
  refine k_iconst (pc := 11) (v := (-1)) C dX6_best_11 (by decide) ?_
  refine k_istore_1 (pc := 12) C dX6_best_12 rfl ?_
  refine k_iconst (pc := 13) (v := 0) C dX6_best_13 (by decide) ?_
  refine k_istore_2 (pc := 14) C dX6_best_14 rfl ?_
  refine k_aload_n (pc := 15) C dX6_best_15 rfl ?_
  refine k_getR (pc := 16) (r := some (2, 1, 0)) C fl_X6_16 k_in6 rfl rfl rfl dX6_best_16 ?_
  refine k_getR (pc := 19) (r := some (10, 1, 0)) C fl_X6_243 (k_in2 (by decide)) rfl rfl rfl dX6_best_19 ?_
  refine k_astore_3 (pc := 22) C dX6_best_22 rfl ?_
  refine k_aload_n (pc := 23) C dX6_best_23 rfl ?_
  refine k_alen (pc := 24) (v := 6) C (k_in10 (by decide)) ⟨Nat.le_of_ble_eq_true rfl, Nat.le_of_ble_eq_true rfl⟩ rfl dX6_best_24 ?_
  refine k_istore_4 (pc := 25) C dX6_best_25 rfl ?_
  refine k_iconst (pc := 27) (v := 0) C dX6_best_27 (by decide) ?_
  refine k_istore_5 (pc := 28) C dX6_best_28 rfl ?_
  refine k_cast (L' := [vR (6, 0, 0), vI ((f_X6_bestL (f_X2_become mi 1 0) 0).1), vI ((f_X6_bestL (f_X2_become mi 1 0) 0).2.1), vR (10, 1, 0), vI 6, vI (nI 0), vU, vU]) (mi' := (f_X6_bestL (f_X2_become mi 1 0) 0).2.2) rfl rfl rfl ?_
  refine k_down (P := fun j => k_V p l e (k_rm 5) s m args below meth c D cy ad bs k_KS k_R0 0 0 (k_End below D cy ad bs k_KS k_R0 (k_rt (some (vI (f_X6_best mi).1)) (f_X6_best mi).2 ml) args s) ((f_X6_bestL (f_X2_become mi 1 0) j).2.2) ml 30 [vR (6, 0, 0), vI ((f_X6_bestL (f_X2_become mi 1 0) j).1), vI ((f_X6_bestL (f_X2_become mi 1 0) j).2.1), vR (10, 1, 0), vI 6, vI (nI j), vU, vU] []) 6 ?_ (fun j hj hk => ?_)
  · skip
    refine k_iload (pc := 30) C dX6_best_30 rfl ?_
    refine k_iload (pc := 32) C dX6_best_32 rfl ?_
    refine k_icmp_geT (pc := 34) C 101 dX6_best_34 (by decide) (by decide) ?_
    refine k_iload_n (pc := 101) C dX6_best_101 rfl ?_
    exact k_iret (pc := 102) C rfl  (k_fIm rfl) dX6_best_102
  · skip
    try dsimp only at hk
    refine k_iload (pc := 30) C dX6_best_30 rfl ?_
    refine k_iload (pc := 32) C dX6_best_32 rfl ?_
    refine k_icmp_geF (pc := 34) C 101 dX6_best_34 (by decide) (k_nge (n := 6) rfl (by decide) hj) ?_
    refine k_aload_n (pc := 37) C dX6_best_37 rfl ?_
    refine k_iload (pc := 38) C dX6_best_38 rfl ?_
    refine k_aaldX (pc := 40) (j := j) (kr := (0, 1, j)) C (nI_clamp (by omega)) (k_in10 (by decide)) (Or.inl rfl) (vp_in_nI (show _ < (6 : Nat) by omega) (show (6 : Nat) < 2 ^ 31 by decide)) rfl dX6_best_40 ?_
    refine k_astore_6 (pc := 41) C dX6_best_41 rfl ?_
    refine k_aload (pc := 43) C dX6_best_43 rfl ?_
    refine k_call0 (pc := 45) C cv_X6_247 (ct_X0_comes (by decide) hj) (k_in0 (by decide) hj) rfl (by decide) rfl (Nat.le_of_ble_eq_true rfl) dX6_best_45 ?_
    refine k_if_ne (pc := 48) C 54 dX6_best_48 (by decide) (fun c48 => ?_) (fun c48 => ?_)
    · skip
      refine k_aload (pc := 54) C dX6_best_54 rfl ?_
      refine k_iconst (pc := 56) (v := 1) C dX6_best_56 (by decide) ?_
      refine k_putZ (pc := 57) C (Or.inr rfl) pl_X6_141 (k_in0 (by decide) hj) rfl rfl dX6_best_57 ?_
      refine k_aload_n (pc := 60) C dX6_best_60 rfl ?_
      refine k_getR (pc := 61) (r := some (2, 1, 0)) C fl_X6_16 k_in6 rfl rfl rfl dX6_best_61 ?_
      refine k_call0 (pc := 64) C cv_X6_240 (ct_X2_hungryMorning (by decide)) (k_in2 (by decide)) rfl (by decide) rfl (Nat.le_of_ble_eq_true rfl) dX6_best_64 ?_
      refine k_istore_7 (pc := 67) C dX6_best_67 rfl ?_
      refine k_aload (pc := 69) C dX6_best_69 rfl ?_
      refine k_iconst (pc := 71) (v := 0) C dX6_best_71 (by decide) ?_
      refine k_putZ (pc := 72) C (Or.inl rfl) pl_X6_141 (k_in0 (by decide) hj) rfl rfl dX6_best_72 ?_
      refine k_iload_n (pc := 75) C dX6_best_75 rfl ?_
      refine k_iconst (pc := 76) (v := (-1)) C dX6_best_76 (by decide) ?_
      refine k_icmp_eq (pc := 77) C 86 dX6_best_77 (by decide) (fun c77 => ?_) (fun c77 => ?_)
      · skip
        refine k_aload (pc := 86) C dX6_best_86 rfl ?_
        refine k_getI (pc := 88) C fl_X6_250 (k_in0 (by decide) hj) rfl rfl dX6_best_88 ?_
        refine k_istore_1 (pc := 91) C dX6_best_91 rfl ?_
        refine k_iload (pc := 92) C dX6_best_92 rfl ?_
        refine k_istore_2 (pc := 94) C dX6_best_94 rfl ?_
        refine k_iinc_5 (pc := 95) (v := nI (j + 1)) C dX6_best_95 (k_inc j) rfl ?_
        refine k_goto (pc := 98) C 30 dX6_best_98 (by decide) ?_
        refine k_drop_6 ?_
        refine k_drop_7 ?_
        exact k_cast (by rw [f_X6_bestL_s, if_neg c48, if_pos c77]) (by rw [f_X6_bestL_s, if_neg c48, if_pos c77]) rfl hk
      · skip
        refine k_iload (pc := 80) C dX6_best_80 rfl ?_
        refine k_iload_n (pc := 82) C dX6_best_82 rfl ?_
        refine k_icmp_ge (pc := 83) C 95 dX6_best_83 (by decide) (fun c83 => ?_) (fun c83 => ?_)
        · skip
          refine k_iinc_5 (pc := 95) (v := nI (j + 1)) C dX6_best_95 (k_inc j) rfl ?_
          refine k_goto (pc := 98) C 30 dX6_best_98 (by decide) ?_
          refine k_drop_6 ?_
          refine k_drop_7 ?_
          exact k_cast (by rw [f_X6_bestL_s, if_neg c48, if_neg c77, if_pos c83]) (by rw [f_X6_bestL_s, if_neg c48, if_neg c77, if_pos c83]) rfl hk
        · skip
          refine k_aload (pc := 86) C dX6_best_86 rfl ?_
          refine k_getI (pc := 88) C fl_X6_250 (k_in0 (by decide) hj) rfl rfl dX6_best_88 ?_
          refine k_istore_1 (pc := 91) C dX6_best_91 rfl ?_
          refine k_iload (pc := 92) C dX6_best_92 rfl ?_
          refine k_istore_2 (pc := 94) C dX6_best_94 rfl ?_
          refine k_iinc_5 (pc := 95) (v := nI (j + 1)) C dX6_best_95 (k_inc j) rfl ?_
          refine k_goto (pc := 98) C 30 dX6_best_98 (by decide) ?_
          refine k_drop_6 ?_
          refine k_drop_7 ?_
          exact k_cast (by rw [f_X6_bestL_s, if_neg c48, if_neg c77, if_neg c83]) (by rw [f_X6_bestL_s, if_neg c48, if_neg c77, if_neg c83]) rfl hk
    · skip
      refine k_goto (pc := 51) C 95 dX6_best_51 (by decide) ?_
      refine k_iinc_5 (pc := 95) (v := nI (j + 1)) C dX6_best_95 (k_inc j) rfl ?_
      refine k_goto (pc := 98) C 30 dX6_best_98 (by decide) ?_
      refine k_drop_6 ?_
      exact k_cast (by rw [f_X6_bestL_s, if_pos c48]) (by rw [f_X6_bestL_s, if_pos c48]) rfl hk
def f_X6_rulesL (mi : MemI) (bg : Int32) (cz : Int32) : Nat → Int32 × MemI
  | 0 => (0, mi)
  | j + 1 =>
    if ((f_X2_pickByRule ((f_X6_rulesL mi bg cz j).2) 1 bg (nI j)).1) = cz then (((f_X6_rulesL mi bg cz j).1) ||| (1 <<< ((nI j) &&& 31)), (f_X2_pickByRule ((f_X6_rulesL mi bg cz j).2) 1 bg (nI j)).2)
    else (((f_X6_rulesL mi bg cz j).1), (f_X2_pickByRule ((f_X6_rulesL mi bg cz j).2) 1 bg (nI j)).2)
theorem f_X6_rulesL_s (mi : MemI) (bg : Int32) (cz : Int32) (j : Nat) : f_X6_rulesL mi bg cz (j + 1) =
    if ((f_X2_pickByRule ((f_X6_rulesL mi bg cz j).2) 1 bg (nI j)).1) = cz then (((f_X6_rulesL mi bg cz j).1) ||| (1 <<< ((nI j) &&& 31)), (f_X2_pickByRule ((f_X6_rulesL mi bg cz j).2) 1 bg (nI j)).2)
    else (((f_X6_rulesL mi bg cz j).1), (f_X2_pickByRule ((f_X6_rulesL mi bg cz j).2) 1 bg (nI j)).2) := rfl
def f_X6_rules (mi : MemI) (bg : Int32) (cz : Int32) : Int32 × MemI :=
  if f_X2_beggarAt mi 0 bg < 6 then if f_X2_citizenAt mi 0 cz < 6 then if (mi (0, 0, (f_X2_beggarAt mi 0 bg)) 2) = 0 then (((f_X6_rulesL (f_X2_become mi 1 0) bg cz 5).1), (f_X6_rulesL (f_X2_become mi 1 0) bg cz 5).2)
      else ((f_X6_refuse mi 0 6).1, (f_X6_refuse mi 0 6).2)
    else ((f_X6_refuse mi 0 1).1, (f_X6_refuse mi 0 1).2)
  else ((f_X6_refuse mi 0 1).1, (f_X6_refuse mi 0 1).2)
set_option maxRecDepth 100000 in
set_option maxHeartbeats 4000000 in
theorem ct_X6_rules {mi : MemI} {ml : MemL} {bg : Int32} {cz : Int32} (hZ0 : k_zo 0 mi) : k_Ct k_KS k_R0 Mt_X6_rules 5 [vR (6, 0, 0), vI bg, vI cz] mi ml (k_rt (some (vI (f_X6_rules mi bg cz).1)) (f_X6_rules mi bg cz).2 ml) := by
  refine k_ofV (L0 := [vR (6, 0, 0), vI bg, vI cz, vU, vU, vU]) (by decide +kernel) (Nat.le_of_ble_eq_true rfl) rfl rfl ?_
  intro p l e s m args below meth c D cy ad bs C
  refine k_aload_n (pc := 0) C dX6_rules_0 rfl ?_
  refine k_getR (pc := 1) (r := some (2, 0, 0)) C fl_X6_10 k_in6 rfl rfl rfl dX6_rules_1 ?_
  refine k_iload_n (pc := 4) C dX6_rules_4 rfl ?_
  by_cases c5 : f_X2_beggarAt mi 0 bg < 6
  · skip
    refine k_call1 (pc := 5) C cv_X6_137 (ct_X2_beggarAt_s (by decide) c5) (k_in2 (by decide)) rfl (by decide) rfl (Nat.le_of_ble_eq_true rfl) dX6_rules_5 ?_
    refine k_astore_3 (pc := 8) C dX6_rules_8 rfl ?_
    refine k_aload_n (pc := 9) C dX6_rules_9 rfl ?_
    refine k_ifnullR (pc := 10) C dX6_rules_10 ?_
    refine k_aload_n (pc := 13) C dX6_rules_13 rfl ?_
    refine k_getR (pc := 14) (r := some (2, 0, 0)) C fl_X6_10 k_in6 rfl rfl rfl dX6_rules_14 ?_
    refine k_iload_n (pc := 17) C dX6_rules_17 rfl ?_
    by_cases c18 : f_X2_citizenAt mi 0 cz < 6
    · skip
      refine k_call1 (pc := 18) C cv_X6_94 (ct_X2_citizenAt_s (by decide) c18) (k_in2 (by decide)) rfl (by decide) rfl (Nat.le_of_ble_eq_true rfl) dX6_rules_18 ?_
      refine k_ifnonnullR (pc := 21) C 31 dX6_rules_21 (by decide) ?_
      refine k_aload_n (pc := 31) C dX6_rules_31 rfl ?_
      refine k_getI (pc := 32) C fl_X6_141 (k_in0 (by decide) c5) rfl rfl dX6_rules_32 ?_
      refine k_if_eq (pc := 35) C 46 dX6_rules_35 (by decide) (fun c35 => ?_) (fun c35 => ?_)
      · skip
        refine k_aload_n (pc := 46) C dX6_rules_46 rfl ?_
        refine k_getR (pc := 47) (r := some (2, 1, 0)) C fl_X6_16 k_in6 rfl rfl rfl dX6_rules_47 ?_
        refine k_aload_n (pc := 50) C dX6_rules_50 rfl ?_
        refine k_getR (pc := 51) (r := some (2, 0, 0)) C fl_X6_10 k_in6 rfl rfl rfl dX6_rules_51 ?_
        refine k_callv1 (pc := 54) C cv_X6_181 (ct_X2_become (by decide) (by decide) hZ0 (by decide)) (k_in2 (by decide)) rfl (by decide) rfl (Nat.le_of_ble_eq_true rfl) dX6_rules_54 ?_
        refine k_iconst (pc := 57) (v := 0) C dX6_rules_57 (by decide) ?_
        refine k_istore_4 (pc := 58) C dX6_rules_58 rfl ?_
        refine k_iconst (pc := 60) (v := 0) C dX6_rules_60 (by decide) ?_
        refine k_istore_5 (pc := 61) C dX6_rules_61 rfl ?_
        refine k_cast (L' := [vR (6, 0, 0), vI bg, vI cz, vR (0, 0, (f_X2_beggarAt mi 0 bg)), vI ((f_X6_rulesL (f_X2_become mi 1 0) bg cz 0).1), vI (nI 0)]) (mi' := (f_X6_rulesL (f_X2_become mi 1 0) bg cz 0).2) rfl rfl rfl ?_
        refine k_down (P := fun j => k_V p l e (k_rm 5) s m args below meth c D cy ad bs k_KS k_R0 0 0 (k_End below D cy ad bs k_KS k_R0 (k_rt (some (vI (f_X6_rules mi bg cz).1)) (f_X6_rules mi bg cz).2 ml) args s) ((f_X6_rulesL (f_X2_become mi 1 0) bg cz j).2) ml 63 [vR (6, 0, 0), vI bg, vI cz, vR (0, 0, (f_X2_beggarAt mi 0 bg)), vI ((f_X6_rulesL (f_X2_become mi 1 0) bg cz j).1), vI (nI j)] []) 5 ?_ (fun j hj hk => ?_)
        · skip
          refine k_iload (pc := 63) C dX6_rules_63 rfl ?_
          refine k_iconst (pc := 65) (v := 5) C dX6_rules_65 (by decide) ?_
          refine k_icmp_geT (pc := 66) C 98 dX6_rules_66 (by decide) (by decide) ?_
          refine k_iload (pc := 98) C dX6_rules_98 rfl ?_
          exact k_iret (pc := 100) C rfl  (k_fIm (by unfold f_X6_rules; rw [if_pos c5, if_pos c18, if_pos c35]; try rfl)) dX6_rules_100
        · skip
          try dsimp only at hk
          refine k_iload (pc := 63) C dX6_rules_63 rfl ?_
          refine k_iconst (pc := 65) (v := 5) C dX6_rules_65 (by decide) ?_
          refine k_icmp_geF (pc := 66) C 98 dX6_rules_66 (by decide) (k_nge (n := 5) rfl (by decide) hj) ?_
          refine k_aload_n (pc := 69) C dX6_rules_69 rfl ?_
          refine k_getR (pc := 70) (r := some (2, 1, 0)) C fl_X6_16 k_in6 rfl rfl rfl dX6_rules_70 ?_
          refine k_iload_n (pc := 73) C dX6_rules_73 rfl ?_
          refine k_iload (pc := 74) C dX6_rules_74 rfl ?_
          refine k_call2 (pc := 76) C cv_X6_234 (ct_X2_pickByRule (by decide)) (k_in2 (by decide)) rfl (by decide) rfl (Nat.le_of_ble_eq_true rfl) dX6_rules_76 ?_
          refine k_iload_n (pc := 79) C dX6_rules_79 rfl ?_
          refine k_icmp_ne (pc := 80) C 92 dX6_rules_80 (by decide) (fun c80 => ?_) (fun c80 => ?_)
          · skip
            refine k_iinc_5 (pc := 92) (v := nI (j + 1)) C dX6_rules_92 (k_inc j) rfl ?_
            refine k_goto (pc := 95) C 63 dX6_rules_95 (by decide) ?_
            exact k_cast (by rw [f_X6_rulesL_s, if_neg c80]) (by rw [f_X6_rulesL_s, if_neg c80]) rfl hk
          · skip
            refine k_iload (pc := 83) C dX6_rules_83 rfl ?_
            refine k_iconst (pc := 85) (v := 1) C dX6_rules_85 (by decide) ?_
            refine k_iload (pc := 86) C dX6_rules_86 rfl ?_
            refine k_ishl (pc := 88) C dX6_rules_88 ?_
            refine k_ior (pc := 89) C dX6_rules_89 ?_
            refine k_istore_4 (pc := 90) C dX6_rules_90 rfl ?_
            refine k_iinc_5 (pc := 92) (v := nI (j + 1)) C dX6_rules_92 (k_inc j) rfl ?_
            refine k_goto (pc := 95) C 63 dX6_rules_95 (by decide) ?_
            exact k_cast (by rw [f_X6_rulesL_s, if_pos c80]) (by rw [f_X6_rulesL_s, if_pos c80]) rfl hk
      · skip
        refine k_aload_n (pc := 38) C dX6_rules_38 rfl ?_
        refine k_iconst (pc := 39) (v := 0) C dX6_rules_39 (by decide) ?_
        refine k_bipush (pc := 40) (v := 6) C dX6_rules_40 (by decide) ?_
        refine k_call2 (pc := 42) C cv_X6_51 ct_X6_refuse k_in6 rfl (by decide) rfl (Nat.le_of_ble_eq_true rfl) dX6_rules_42 ?_
        exact k_iret (pc := 45) C rfl  (k_fIm (by unfold f_X6_rules; rw [if_pos c5, if_pos c18, if_neg c35]; try rfl)) dX6_rules_45
    · skip
      refine k_call1 (pc := 18) C cv_X6_94 (ct_X2_citizenAt_n (by decide) c18) (k_in2 (by decide)) rfl (by decide) rfl (Nat.le_of_ble_eq_true rfl) dX6_rules_18 ?_
      refine k_ifnonnullN (pc := 21) C dX6_rules_21 ?_
      refine k_aload_n (pc := 24) C dX6_rules_24 rfl ?_
      refine k_iconst (pc := 25) (v := 0) C dX6_rules_25 (by decide) ?_
      refine k_iconst (pc := 26) (v := 1) C dX6_rules_26 (by decide) ?_
      refine k_call2 (pc := 27) C cv_X6_51 ct_X6_refuse k_in6 rfl (by decide) rfl (Nat.le_of_ble_eq_true rfl) dX6_rules_27 ?_
      exact k_iret (pc := 30) C rfl  (k_fIm (by unfold f_X6_rules; rw [if_pos c5, if_neg c18]; try rfl)) dX6_rules_30
  · skip
    refine k_call1 (pc := 5) C cv_X6_137 (ct_X2_beggarAt_n (by decide) c5) (k_in2 (by decide)) rfl (by decide) rfl (Nat.le_of_ble_eq_true rfl) dX6_rules_5 ?_
    refine k_astore_3 (pc := 8) C dX6_rules_8 rfl ?_
    refine k_aload_n (pc := 9) C dX6_rules_9 rfl ?_
    refine k_ifnullN (pc := 10) C 24 dX6_rules_10 (by decide) ?_
    refine k_aload_n (pc := 24) C dX6_rules_24 rfl ?_
    refine k_iconst (pc := 25) (v := 0) C dX6_rules_25 (by decide) ?_
    refine k_iconst (pc := 26) (v := 1) C dX6_rules_26 (by decide) ?_
    refine k_call2 (pc := 27) C cv_X6_51 ct_X6_refuse k_in6 rfl (by decide) rfl (Nat.le_of_ble_eq_true rfl) dX6_rules_27 ?_
    exact k_iret (pc := 30) C rfl  (k_fIm (by unfold f_X6_rules; rw [if_neg c5]; try rfl)) dX6_rules_30
def f_X6_restL (mi : MemI) : Nat → MemI
  | 0 => mi
  | j + 1 =>
    if (f_X5_hasCitizen (f_X6_restL mi j) j) = 0 then f_X6_restL mi j
    else if f_X2_citizenAt (f_X6_restL mi j) 0 ((f_X6_restL mi j) (5, 0, j) 3) < 6 then f_X6_restL mi j
      else f_X5_takeCitizen (f_X6_restL mi j) j (-1)
theorem f_X6_restL_s (mi : MemI) (j : Nat) : f_X6_restL mi  (j + 1) =
    if (f_X5_hasCitizen (f_X6_restL mi j) j) = 0 then f_X6_restL mi j
    else if f_X2_citizenAt (f_X6_restL mi j) 0 ((f_X6_restL mi j) (5, 0, j) 3) < 6 then f_X6_restL mi j
      else f_X5_takeCitizen (f_X6_restL mi j) j (-1) := rfl
def f_X6_restore (mi : MemI) : Int32 × MemI :=
  if (mi (6, 0, 0) 3) = 0 then ((f_X6_refuse mi 0 6).1, (f_X6_refuse mi 0 6).2)
  else ((f_X6_restL (f_X2_become mi 0 2) 8) (2, 0, 0) 2, f_X6_restL (f_X2_become mi 0 2) 8)
set_option maxRecDepth 100000 in
set_option maxHeartbeats 4000000 in
theorem ct_X6_restore {mi : MemI} {ml : MemL}  (hZ2 : k_zo 2 mi) : k_Ct k_KS k_R0 Mt_X6_restore 2 [vR (6, 0, 0)] mi ml (k_rt (some (vI (f_X6_restore mi).1)) (f_X6_restore mi).2 ml) := by
  refine k_ofV (L0 := [vR (6, 0, 0), vU, vU, vU, vU]) (by decide +kernel) (Nat.le_of_ble_eq_true rfl) rfl rfl ?_
  intro p l e s m args below meth c D cy ad bs C
  refine k_aload_n (pc := 0) C dX6_restore_0 rfl ?_
  refine k_getI (pc := 1) C fl_X6_279 k_in6 rfl rfl dX6_restore_1 ?_
  refine k_if_ne (pc := 4) C 15 dX6_restore_4 (by decide) (fun c4 => ?_) (fun c4 => ?_)
  · skip
    refine k_aload_n (pc := 15) C dX6_restore_15 rfl ?_
    refine k_getR (pc := 16) (r := some (2, 0, 0)) C fl_X6_10 k_in6 rfl rfl rfl dX6_restore_16 ?_
    refine k_aload_n (pc := 19) C dX6_restore_19 rfl ?_
    refine k_getR (pc := 20) (r := some (2, 2, 0)) C fl_X6_19 k_in6 rfl rfl rfl dX6_restore_20 ?_
    refine k_callv1 (pc := 23) C cv_X6_181 (ct_X2_become (by decide) (by decide) hZ2 (by decide)) (k_in2 (by decide)) rfl (by decide) rfl (Nat.le_of_ble_eq_true rfl) dX6_restore_23 ?_
    refine k_aload_n (pc := 26) C dX6_restore_26 rfl ?_
    refine k_getR (pc := 27) (r := some (12, 0, 0)) C fl_X6_24 k_in6 rfl rfl rfl dX6_restore_27 ?_
    refine k_astore_1 (pc := 30) C dX6_restore_30 rfl ?_
    refine k_aload_n (pc := 31) C dX6_restore_31 rfl ?_
    refine k_alen (pc := 32) (v := 8) C k_in12 ⟨Nat.le_of_ble_eq_true rfl, Nat.le_of_ble_eq_true rfl⟩ rfl dX6_restore_32 ?_
    refine k_istore_2 (pc := 33) C dX6_restore_33 rfl ?_
    refine k_iconst (pc := 34) (v := 0) C dX6_restore_34 (by decide) ?_
    refine k_istore_3 (pc := 35) C dX6_restore_35 rfl ?_
    refine k_cast (L' := [vR (6, 0, 0), vR (12, 0, 0), vI 8, vI (nI 0), vU]) (mi' := f_X6_restL (f_X2_become mi 0 2) 0) rfl rfl rfl ?_
    refine k_down (P := fun j => k_V p l e (k_rm 2) s m args below meth c D cy ad bs k_KS k_R0 0 0 (k_End below D cy ad bs k_KS k_R0 (k_rt (some (vI (f_X6_restore mi).1)) (f_X6_restore mi).2 ml) args s) (f_X6_restL (f_X2_become mi 0 2) j) ml 36 [vR (6, 0, 0), vR (12, 0, 0), vI 8, vI (nI j), vU] []) 8 ?_ (fun j hj hk => ?_)
    · skip
      refine k_iload_n (pc := 36) C dX6_restore_36 rfl ?_
      refine k_iload_n (pc := 37) C dX6_restore_37 rfl ?_
      refine k_icmp_geT (pc := 38) C 81 dX6_restore_38 (by decide) (by decide) ?_
      refine k_aload_n (pc := 81) C dX6_restore_81 rfl ?_
      refine k_getR (pc := 82) (r := some (2, 0, 0)) C fl_X6_10 k_in6 rfl rfl rfl dX6_restore_82 ?_
      refine k_getI (pc := 85) C fl_X6_282 (k_in2 (by decide)) rfl rfl dX6_restore_85 ?_
      exact k_iret (pc := 88) C rfl  (k_fIm (by unfold f_X6_restore; rw [if_neg c4]; try rfl)) dX6_restore_88
    · skip
      try dsimp only at hk
      refine k_iload_n (pc := 36) C dX6_restore_36 rfl ?_
      refine k_iload_n (pc := 37) C dX6_restore_37 rfl ?_
      refine k_icmp_geF (pc := 38) C 81 dX6_restore_38 (by decide) (k_nge (n := 8) rfl (by decide) hj) ?_
      refine k_aload_n (pc := 41) C dX6_restore_41 rfl ?_
      refine k_iload_n (pc := 42) C dX6_restore_42 rfl ?_
      refine k_aaldX (pc := 43) (j := j) (kr := (5, 0, j)) C (nI_clamp (by omega)) k_in12 (Or.inr (Or.inr rfl)) (vp_in_nI (show _ < (8 : Nat) by omega) (show (8 : Nat) < 2 ^ 31 by decide)) rfl dX6_restore_43 ?_
      refine k_astore_4 (pc := 44) C dX6_restore_44 rfl ?_
      refine k_aload (pc := 46) C dX6_restore_46 rfl ?_
      refine k_call0 (pc := 48) C cv_X6_71 (ct_X5_hasCitizen hj) (k_in5 hj) rfl (by decide) rfl (Nat.le_of_ble_eq_true rfl) dX6_restore_48 ?_
      refine k_if_eq (pc := 51) C 75 dX6_restore_51 (by decide) (fun c51 => ?_) (fun c51 => ?_)
      · skip
        refine k_iinc_3 (pc := 75) (v := nI (j + 1)) C dX6_restore_75 (k_inc j) rfl ?_
        refine k_goto (pc := 78) C 36 dX6_restore_78 (by decide) ?_
        refine k_drop_4 ?_
        exact k_cast rfl (by rw [f_X6_restL_s, if_pos c51]) rfl hk
      · skip
        refine k_aload_n (pc := 54) C dX6_restore_54 rfl ?_
        refine k_getR (pc := 55) (r := some (2, 0, 0)) C fl_X6_10 k_in6 rfl rfl rfl dX6_restore_55 ?_
        refine k_aload (pc := 58) C dX6_restore_58 rfl ?_
        refine k_getI (pc := 60) C fl_X6_106 (k_in5 hj) rfl rfl dX6_restore_60 ?_
        by_cases c63 : f_X2_citizenAt (f_X6_restL (f_X2_become mi 0 2) j) 0 ((f_X6_restL (f_X2_become mi 0 2) j) (5, 0, j) 3) < 6
        · skip
          refine k_call1 (pc := 63) C cv_X6_94 (ct_X2_citizenAt_s (by decide) c63) (k_in2 (by decide)) rfl (by decide) rfl (Nat.le_of_ble_eq_true rfl) dX6_restore_63 ?_
          refine k_ifnonnullR (pc := 66) C 75 dX6_restore_66 (by decide) ?_
          refine k_iinc_3 (pc := 75) (v := nI (j + 1)) C dX6_restore_75 (k_inc j) rfl ?_
          refine k_goto (pc := 78) C 36 dX6_restore_78 (by decide) ?_
          refine k_drop_4 ?_
          exact k_cast rfl (by rw [f_X6_restL_s, if_neg c51, if_pos c63]) rfl hk
        · skip
          refine k_call1 (pc := 63) C cv_X6_94 (ct_X2_citizenAt_n (by decide) c63) (k_in2 (by decide)) rfl (by decide) rfl (Nat.le_of_ble_eq_true rfl) dX6_restore_63 ?_
          refine k_ifnonnullN (pc := 66) C dX6_restore_66 ?_
          refine k_aload (pc := 69) C dX6_restore_69 rfl ?_
          refine k_iconst (pc := 71) (v := (-1)) C dX6_restore_71 (by decide) ?_
          refine k_callv1 (pc := 72) C cv_X6_98 (ct_X5_takeCitizen hj) (k_in5 hj) rfl (by decide) rfl (Nat.le_of_ble_eq_true rfl) dX6_restore_72 ?_
          refine k_iinc_3 (pc := 75) (v := nI (j + 1)) C dX6_restore_75 (k_inc j) rfl ?_
          refine k_goto (pc := 78) C 36 dX6_restore_78 (by decide) ?_
          refine k_drop_4 ?_
          exact k_cast rfl (by rw [f_X6_restL_s, if_neg c51, if_neg c63]) rfl hk
  · skip
    refine k_aload_n (pc := 7) C dX6_restore_7 rfl ?_
    refine k_iconst (pc := 8) (v := 0) C dX6_restore_8 (by decide) ?_
    refine k_bipush (pc := 9) (v := 6) C dX6_restore_9 (by decide) ?_
    refine k_call2 (pc := 11) C cv_X6_51 ct_X6_refuse k_in6 rfl (by decide) rfl (Nat.le_of_ble_eq_true rfl) dX6_restore_11 ?_
    exact k_iret (pc := 14) C rfl  (k_fIm (by unfold f_X6_restore; rw [if_pos c4]; try rfl)) dX6_restore_14
def f_X6_wintL (mi : MemI) (N : Nat) : Nat → Int32 × MemI
  | 0 => (0, mi)
  | j + 1 =>
    (((f_X6_wintL mi N j).1) + ((f_X2_passMorning (f_X2_drawWhoHides ((f_X6_wintL mi N j).2) 0) 0).1), (f_X2_passMorning (f_X2_drawWhoHides ((f_X6_wintL mi N j).2) 0) 0).2)
theorem f_X6_wintL_s (mi : MemI) (N : Nat) (j : Nat) : f_X6_wintL mi N (j + 1) =
    (((f_X6_wintL mi N j).1) + ((f_X2_passMorning (f_X2_drawWhoHides ((f_X6_wintL mi N j).2) 0) 0).1), (f_X2_passMorning (f_X2_drawWhoHides ((f_X6_wintL mi N j).2) 0) 0).2) := rfl
def f_X6_wintersI (mi : MemI) (N : Nat) : Int32 × MemI :=
  (((f_X6_wintL mi N N).1), (f_X6_wintL mi N N).2)
set_option maxRecDepth 100000 in
set_option maxHeartbeats 4000000 in
theorem ct_X6_winters_in {mi : MemI} {ml : MemL} {N : Nat} (hN : N ≤ 60) (hp_in : f_X6_isOutside (nI N) 1 60 = 0) : k_Ct k_KS k_R0 Mt_X6_winters 5 [vR (6, 0, 0), vI (nI N)] mi ml (k_rt (some (vI (f_X6_wintersI mi N).1)) (f_X6_wintersI mi N).2 ml) := by
  refine k_ofV (L0 := [vR (6, 0, 0), vI (nI N), vU, vU]) (by decide +kernel) (Nat.le_of_ble_eq_true rfl) rfl rfl ?_
  intro p l e s m args below meth c D cy ad bs C
  refine k_iload_n (pc := 0) C dX6_winters_0 rfl ?_
  refine k_iconst (pc := 1) (v := 1) C dX6_winters_1 (by decide) ?_
  refine k_bipush (pc := 2) (v := 60) C dX6_winters_2 (by decide) ?_
  refine k_calls3 (pc := 4) C cs_X6_120 ct_X6_isOutside (by decide) rfl (Nat.le_of_ble_eq_true rfl) dX6_winters_4 ?_
  refine k_if_eqT (pc := 7) C 18 dX6_winters_7 (by decide) hp_in ?_
  refine k_iconst (pc := 18) (v := 0) C dX6_winters_18 (by decide) ?_
  refine k_istore_2 (pc := 19) C dX6_winters_19 rfl ?_
  refine k_iconst (pc := 20) (v := 0) C dX6_winters_20 (by decide) ?_
  refine k_istore_3 (pc := 21) C dX6_winters_21 rfl ?_
  refine k_cast (L' := [vR (6, 0, 0), vI (nI N), vI ((f_X6_wintL mi N 0).1), vI (nI 0)]) (mi' := (f_X6_wintL mi N 0).2) rfl rfl rfl ?_
  refine k_down (P := fun j => k_V p l e (k_rm 5) s m args below meth c D cy ad bs k_KS k_R0 0 0 (k_End below D cy ad bs k_KS k_R0 (k_rt (some (vI (f_X6_wintersI mi N).1)) (f_X6_wintersI mi N).2 ml) args s) ((f_X6_wintL mi N j).2) ml 22 [vR (6, 0, 0), vI (nI N), vI ((f_X6_wintL mi N j).1), vI (nI j)] []) N ?_ (fun j hj hk => ?_)
  · skip
    refine k_iload_n (pc := 22) C dX6_winters_22 rfl ?_
    refine k_iload_n (pc := 23) C dX6_winters_23 rfl ?_
    refine k_icmp_geT (pc := 24) C 50 dX6_winters_24 (by decide) (Int32.le_refl _) ?_
    refine k_iload_n (pc := 50) C dX6_winters_50 rfl ?_
    exact k_iret (pc := 51) C rfl  (k_fIm rfl) dX6_winters_51
  · skip
    try dsimp only at hk
    refine k_iload_n (pc := 22) C dX6_winters_22 rfl ?_
    refine k_iload_n (pc := 23) C dX6_winters_23 rfl ?_
    refine k_icmp_geF (pc := 24) C 50 dX6_winters_24 (by decide) (k_nge (n := N) rfl (by omega) hj) ?_
    refine k_aload_n (pc := 27) C dX6_winters_27 rfl ?_
    refine k_getR (pc := 28) (r := some (2, 0, 0)) C fl_X6_10 k_in6 rfl rfl rfl dX6_winters_28 ?_
    refine k_callv0 (pc := 31) C cv_X6_260 (ct_X2_drawWhoHides (by decide)) (k_in2 (by decide)) rfl (by decide) rfl (Nat.le_of_ble_eq_true rfl) dX6_winters_31 ?_
    refine k_iload_n (pc := 34) C dX6_winters_34 rfl ?_
    refine k_aload_n (pc := 35) C dX6_winters_35 rfl ?_
    refine k_getR (pc := 36) (r := some (2, 0, 0)) C fl_X6_10 k_in6 rfl rfl rfl dX6_winters_36 ?_
    refine k_call0 (pc := 39) C cv_X6_263 (ct_X2_passMorning (by decide)) (k_in2 (by decide)) rfl (by decide) rfl (Nat.le_of_ble_eq_true rfl) dX6_winters_39 ?_
    refine k_iadd (pc := 42) C dX6_winters_42 ?_
    refine k_istore_2 (pc := 43) C dX6_winters_43 rfl ?_
    refine k_iinc_3 (pc := 44) (v := nI (j + 1)) C dX6_winters_44 (k_inc j) rfl ?_
    refine k_goto (pc := 47) C 22 dX6_winters_47 (by decide) ?_
    exact k_cast (by rw [f_X6_wintL_s]) (by rw [f_X6_wintL_s]) rfl hk
def f_X6_winters (mi : MemI) (n : Int32) : Int32 × MemI := if f_X6_isOutside n 1 60 = 0 then f_X6_wintersI mi n.toNatClampNeg else f_X6_refuse mi 0 6
set_option maxRecDepth 100000 in
set_option maxHeartbeats 4000000 in
theorem ct_X6_winters_out {mi : MemI} {ml : MemL} {n : Int32} (hp_out : ¬ f_X6_isOutside n 1 60 = 0) : k_Ct k_KS k_R0 Mt_X6_winters 1 [vR (6, 0, 0), vI n] mi ml (k_rt (some (vI (f_X6_winters mi n).1)) (f_X6_winters mi n).2 ml) := by
  refine k_ofV (L0 := [vR (6, 0, 0), vI n, vU, vU]) (by decide +kernel) (Nat.le_of_ble_eq_true rfl) rfl rfl ?_
  intro p l e s m args below meth c D cy ad bs C
  refine k_iload_n (pc := 0) C dX6_winters_0 rfl ?_
  refine k_iconst (pc := 1) (v := 1) C dX6_winters_1 (by decide) ?_
  refine k_bipush (pc := 2) (v := 60) C dX6_winters_2 (by decide) ?_
  refine k_calls3 (pc := 4) C cs_X6_120 ct_X6_isOutside (by decide) rfl (Nat.le_of_ble_eq_true rfl) dX6_winters_4 ?_
  refine k_if_eqF (pc := 7) C 18 dX6_winters_7 (by decide) hp_out ?_
  refine k_aload_n (pc := 10) C dX6_winters_10 rfl ?_
  refine k_iconst (pc := 11) (v := 0) C dX6_winters_11 (by decide) ?_
  refine k_bipush (pc := 12) (v := 6) C dX6_winters_12 (by decide) ?_
  refine k_call2 (pc := 14) C cv_X6_51 ct_X6_refuse k_in6 rfl (by decide) rfl (Nat.le_of_ble_eq_true rfl) dX6_winters_14 ?_
  exact k_iret (pc := 17) C rfl (k_fIm (by unfold f_X6_winters; rw [if_neg hp_out]; try rfl)) dX6_winters_17
def f_X6_shR (cz w : Int32) : Nat → Nat → MemI → Int32 × MemI
  | 0, _, m0 => ((-1), m0)
  | u + 1, j, m0 =>
    if w = 0 then if w = 1 then if ((f_X2_isPickedWithHeart m0 1 cz (20 - (nI j))).1) = 1 then (20 - (nI j), (f_X2_isPickedWithHeart m0 1 cz (20 - (nI j))).2)
        else f_X6_shR cz w u (j + 1) ((f_X2_isPickedWithHeart m0 1 cz (20 - (nI j))).2)
      else if ((f_X2_isPickedWithHeart m0 1 cz (20 - (nI j))).1) = 0 then (20 - (nI j), (f_X2_isPickedWithHeart m0 1 cz (20 - (nI j))).2)
        else f_X6_shR cz w u (j + 1) ((f_X2_isPickedWithHeart m0 1 cz (20 - (nI j))).2)
    else if w = 1 then if ((f_X2_isPickedWithHeart m0 1 cz (nI j)).1) = 1 then (nI j, (f_X2_isPickedWithHeart m0 1 cz (nI j)).2)
        else f_X6_shR cz w u (j + 1) ((f_X2_isPickedWithHeart m0 1 cz (nI j)).2)
      else if ((f_X2_isPickedWithHeart m0 1 cz (nI j)).1) = 0 then (nI j, (f_X2_isPickedWithHeart m0 1 cz (nI j)).2)
        else f_X6_shR cz w u (j + 1) ((f_X2_isPickedWithHeart m0 1 cz (nI j)).2)
theorem f_X6_shR_s (cz w : Int32) (u j : Nat) (m0 : MemI) : f_X6_shR cz w (u + 1) j m0 =
    if w = 0 then if w = 1 then if ((f_X2_isPickedWithHeart m0 1 cz (20 - (nI j))).1) = 1 then (20 - (nI j), (f_X2_isPickedWithHeart m0 1 cz (20 - (nI j))).2)
        else f_X6_shR cz w u (j + 1) ((f_X2_isPickedWithHeart m0 1 cz (20 - (nI j))).2)
      else if ((f_X2_isPickedWithHeart m0 1 cz (20 - (nI j))).1) = 0 then (20 - (nI j), (f_X2_isPickedWithHeart m0 1 cz (20 - (nI j))).2)
        else f_X6_shR cz w u (j + 1) ((f_X2_isPickedWithHeart m0 1 cz (20 - (nI j))).2)
    else if w = 1 then if ((f_X2_isPickedWithHeart m0 1 cz (nI j)).1) = 1 then (nI j, (f_X2_isPickedWithHeart m0 1 cz (nI j)).2)
        else f_X6_shR cz w u (j + 1) ((f_X2_isPickedWithHeart m0 1 cz (nI j)).2)
      else if ((f_X2_isPickedWithHeart m0 1 cz (nI j)).1) = 0 then (nI j, (f_X2_isPickedWithHeart m0 1 cz (nI j)).2)
        else f_X6_shR cz w u (j + 1) ((f_X2_isPickedWithHeart m0 1 cz (nI j)).2) := rfl
def f_X6_shun (mi : MemI) (cz w : Int32) : Int32 × MemI :=
  if f_X2_citizenAt mi 0 cz < 6 then if (mi (1, 0, (f_X2_citizenAt mi 0 cz)) 2) = 0 then if (f_X6_isOutside w 0 1) = 0 then f_X6_shR cz w 21 0 (f_X2_become mi 1 0)
      else ((f_X6_refuse mi 10 5).1, (f_X6_refuse mi 10 5).2)
    else ((f_X6_refuse mi 10 1).1, (f_X6_refuse mi 10 1).2)
  else ((f_X6_refuse mi 10 1).1, (f_X6_refuse mi 10 1).2)
set_option maxRecDepth 100000 in
set_option maxHeartbeats 4000000 in
theorem ct_X6_shun {mi : MemI} {ml : MemL} {cz w : Int32} (hZ0 : k_zo 0 mi) : k_Ct k_KS k_R0 Mt_X6_shun 5 [vR (6, 0, 0), vI cz, vI w] mi ml (k_rt (some (vI (f_X6_shun mi cz w).1)) (f_X6_shun mi cz w).2 ml) := by
  refine k_ofV (L0 := [vR (6, 0, 0), vI cz, vI w, vU, vU, vU]) (by decide +kernel) (Nat.le_of_ble_eq_true rfl) rfl rfl ?_
  intro p l e s m args below meth c D cy ad bs C
  refine k_aload_n (pc := 0) C dX6_shun_0 rfl ?_
  refine k_getR (pc := 1) (r := some (2, 0, 0)) C fl_X6_10 k_in6 rfl rfl rfl dX6_shun_1 ?_
  refine k_iload_n (pc := 4) C dX6_shun_4 rfl ?_
  by_cases c5 : f_X2_citizenAt mi 0 cz < 6
  · skip
    refine k_call1 (pc := 5) C cv_X6_94 (ct_X2_citizenAt_s (by decide) c5) (k_in2 (by decide)) rfl (by decide) rfl (Nat.le_of_ble_eq_true rfl) dX6_shun_5 ?_
    refine k_astore_3 (pc := 8) C dX6_shun_8 rfl ?_
    refine k_aload_n (pc := 9) C dX6_shun_9 rfl ?_
    refine k_ifnullR (pc := 10) C dX6_shun_10 ?_
    refine k_aload_n (pc := 13) C dX6_shun_13 rfl ?_
    refine k_getI (pc := 14) C fl_X6_162 (k_in1 (by decide) c5) rfl rfl dX6_shun_14 ?_
    refine k_if_eq (pc := 17) C 28 dX6_shun_17 (by decide) (fun c17 => ?_) (fun c17 => ?_)
    · skip
      refine k_iload_n (pc := 28) C dX6_shun_28 rfl ?_
      refine k_iconst (pc := 29) (v := 0) C dX6_shun_29 (by decide) ?_
      refine k_iconst (pc := 30) (v := 1) C dX6_shun_30 (by decide) ?_
      refine k_calls3 (pc := 31) C cs_X6_120 ct_X6_isOutside (by decide) rfl (Nat.le_of_ble_eq_true rfl) dX6_shun_31 ?_
      refine k_if_eq (pc := 34) C 45 dX6_shun_34 (by decide) (fun c34 => ?_) (fun c34 => ?_)
      · skip
        refine k_aload_n (pc := 45) C dX6_shun_45 rfl ?_
        refine k_getR (pc := 46) (r := some (2, 1, 0)) C fl_X6_16 k_in6 rfl rfl rfl dX6_shun_46 ?_
        refine k_aload_n (pc := 49) C dX6_shun_49 rfl ?_
        refine k_getR (pc := 50) (r := some (2, 0, 0)) C fl_X6_10 k_in6 rfl rfl rfl dX6_shun_50 ?_
        refine k_callv1 (pc := 53) C cv_X6_181 (ct_X2_become (by decide) (by decide) hZ0 (by decide)) (k_in2 (by decide)) rfl (by decide) rfl (Nat.le_of_ble_eq_true rfl) dX6_shun_53 ?_
        refine k_iconst (pc := 56) (v := 0) C dX6_shun_56 (by decide) ?_
        refine k_istore_4 (pc := 57) C dX6_shun_57 rfl ?_
        have hF : f_X6_shun mi cz w = f_X6_shR cz w 21 0 (f_X2_become mi 1 0) := by unfold f_X6_shun; rw [if_pos c5, if_pos c17, if_pos c34]
        rw [hF]
        refine k_drop_3 ?_
        have hloop : ∀ (u j : Nat) (m0 : MemI), j + u = 21 → f_X6_shR cz w u j m0 = f_X6_shR cz w 21 0 (f_X2_become mi 1 0) → k_V p l e (k_rm 5) s m args below meth c D cy ad bs k_KS k_R0 0 0 (k_End below D cy ad bs k_KS k_R0 (k_rt (some (vI (f_X6_shR cz w 21 0 (f_X2_become mi 1 0)).1)) (f_X6_shR cz w 21 0 (f_X2_become mi 1 0)).2 ml) args s) m0 ml 59 [vR (6, 0, 0), vI cz, vI w, vU, vI (nI j), vU] [] := by
          intro u
          induction u with
          | zero =>
            intro j m0 hjn hres
            refine k_iload (pc := 59) C dX6_shun_59 rfl ?_
            refine k_bipush (pc := 61) (v := 20) C dX6_shun_61 (by decide) ?_
            refine k_icmp_gtT (pc := 63) C 114 dX6_shun_63 (by decide) (nI_lt (a := 20) (show 20 < j by omega) (by omega)) ?_
            refine k_iconst (pc := 114) (v := (-1)) C dX6_shun_114 (by decide) ?_
            exact k_iret (pc := 115) C rfl (k_fIm (by rw [← hres]; rfl)) dX6_shun_115
          | succ u ih =>
            intro j m0 hjn hres
            have hj : j < 21 := by omega
            refine k_iload (pc := 59) C dX6_shun_59 rfl ?_
            refine k_bipush (pc := 61) (v := 20) C dX6_shun_61 (by decide) ?_
            refine k_icmp_gtF (pc := 63) C 114 dX6_shun_63 (by decide) (nI_nlt (a := 20) (show j ≤ 20 by omega) (by omega)) ?_
            refine k_iload_n (pc := 66) C dX6_shun_66 rfl ?_
            refine k_if_ne (pc := 67) C 78 dX6_shun_67 (by decide) (fun c67 => ?_) (fun c67 => ?_)
            · skip
              refine k_iload (pc := 78) C dX6_shun_78 rfl ?_
              refine k_istore_5 (pc := 80) C dX6_shun_80 rfl ?_
              refine k_aload_n (pc := 82) C dX6_shun_82 rfl ?_
              refine k_getR (pc := 83) (r := some (2, 1, 0)) C fl_X6_16 k_in6 rfl rfl rfl dX6_shun_83 ?_
              refine k_iload_n (pc := 86) C dX6_shun_86 rfl ?_
              refine k_iload (pc := 87) C dX6_shun_87 rfl ?_
              refine k_call2 (pc := 89) C cv_X6_231 (ct_X2_isPickedWithHeart (by decide)) (k_in2 (by decide)) rfl (by decide) rfl (Nat.le_of_ble_eq_true rfl) dX6_shun_89 ?_
              refine k_iload_n (pc := 92) C dX6_shun_92 rfl ?_
              refine k_iconst (pc := 93) (v := 1) C dX6_shun_93 (by decide) ?_
              refine k_icmp_ne (pc := 94) C 101 dX6_shun_94 (by decide) (fun c94 => ?_) (fun c94 => ?_)
              · skip
                refine k_iconst (pc := 101) (v := 0) C dX6_shun_101 (by decide) ?_
                refine k_icmp_ne (pc := 102) C 108 dX6_shun_102 (by decide) (fun c102 => ?_) (fun c102 => ?_)
                · skip
                  refine k_iinc_4 (pc := 108) (v := nI (j + 1)) C dX6_shun_108 (k_inc j) rfl ?_
                  refine k_goto (pc := 111) C 59 dX6_shun_111 (by decide) ?_
                  refine k_drop_5 ?_
                  exact ih (j + 1) ((f_X2_isPickedWithHeart m0 1 cz (nI j)).2) (by omega) (by rw [← hres, f_X6_shR_s, if_neg c67, if_neg c94, if_neg c102])
                · skip
                  refine k_iload (pc := 105) C dX6_shun_105 rfl ?_
                  exact k_iret (pc := 107) C rfl (k_fIm (by rw [← hres, f_X6_shR_s, if_neg c67, if_neg c94, if_pos c102])) dX6_shun_107
              · skip
                refine k_iconst (pc := 97) (v := 1) C dX6_shun_97 (by decide) ?_
                refine k_goto (pc := 98) C 102 dX6_shun_98 (by decide) ?_
                refine k_icmp_ne (pc := 102) C 108 dX6_shun_102 (by decide) (fun c102 => ?_) (fun c102 => ?_)
                · skip
                  refine k_iinc_4 (pc := 108) (v := nI (j + 1)) C dX6_shun_108 (k_inc j) rfl ?_
                  refine k_goto (pc := 111) C 59 dX6_shun_111 (by decide) ?_
                  refine k_drop_5 ?_
                  exact ih (j + 1) ((f_X2_isPickedWithHeart m0 1 cz (nI j)).2) (by omega) (by rw [← hres, f_X6_shR_s, if_neg c67, if_pos c94, if_neg c102])
                · skip
                  refine k_iload (pc := 105) C dX6_shun_105 rfl ?_
                  exact k_iret (pc := 107) C rfl (k_fIm (by rw [← hres, f_X6_shR_s, if_neg c67, if_pos c94, if_pos c102])) dX6_shun_107
            · skip
              refine k_bipush (pc := 70) (v := 20) C dX6_shun_70 (by decide) ?_
              refine k_iload (pc := 72) C dX6_shun_72 rfl ?_
              refine k_isub (pc := 74) C dX6_shun_74 ?_
              refine k_goto (pc := 75) C 80 dX6_shun_75 (by decide) ?_
              refine k_istore_5 (pc := 80) C dX6_shun_80 rfl ?_
              refine k_aload_n (pc := 82) C dX6_shun_82 rfl ?_
              refine k_getR (pc := 83) (r := some (2, 1, 0)) C fl_X6_16 k_in6 rfl rfl rfl dX6_shun_83 ?_
              refine k_iload_n (pc := 86) C dX6_shun_86 rfl ?_
              refine k_iload (pc := 87) C dX6_shun_87 rfl ?_
              refine k_call2 (pc := 89) C cv_X6_231 (ct_X2_isPickedWithHeart (by decide)) (k_in2 (by decide)) rfl (by decide) rfl (Nat.le_of_ble_eq_true rfl) dX6_shun_89 ?_
              refine k_iload_n (pc := 92) C dX6_shun_92 rfl ?_
              refine k_iconst (pc := 93) (v := 1) C dX6_shun_93 (by decide) ?_
              refine k_icmp_ne (pc := 94) C 101 dX6_shun_94 (by decide) (fun c94 => ?_) (fun c94 => ?_)
              · skip
                refine k_iconst (pc := 101) (v := 0) C dX6_shun_101 (by decide) ?_
                refine k_icmp_ne (pc := 102) C 108 dX6_shun_102 (by decide) (fun c102 => ?_) (fun c102 => ?_)
                · skip
                  refine k_iinc_4 (pc := 108) (v := nI (j + 1)) C dX6_shun_108 (k_inc j) rfl ?_
                  refine k_goto (pc := 111) C 59 dX6_shun_111 (by decide) ?_
                  refine k_drop_5 ?_
                  exact ih (j + 1) ((f_X2_isPickedWithHeart m0 1 cz (20 - (nI j))).2) (by omega) (by rw [← hres, f_X6_shR_s, if_pos c67, if_neg c94, if_neg c102])
                · skip
                  refine k_iload (pc := 105) C dX6_shun_105 rfl ?_
                  exact k_iret (pc := 107) C rfl (k_fIm (by rw [← hres, f_X6_shR_s, if_pos c67, if_neg c94, if_pos c102])) dX6_shun_107
              · skip
                refine k_iconst (pc := 97) (v := 1) C dX6_shun_97 (by decide) ?_
                refine k_goto (pc := 98) C 102 dX6_shun_98 (by decide) ?_
                refine k_icmp_ne (pc := 102) C 108 dX6_shun_102 (by decide) (fun c102 => ?_) (fun c102 => ?_)
                · skip
                  refine k_iinc_4 (pc := 108) (v := nI (j + 1)) C dX6_shun_108 (k_inc j) rfl ?_
                  refine k_goto (pc := 111) C 59 dX6_shun_111 (by decide) ?_
                  refine k_drop_5 ?_
                  exact ih (j + 1) ((f_X2_isPickedWithHeart m0 1 cz (20 - (nI j))).2) (by omega) (by rw [← hres, f_X6_shR_s, if_pos c67, if_pos c94, if_neg c102])
                · skip
                  refine k_iload (pc := 105) C dX6_shun_105 rfl ?_
                  exact k_iret (pc := 107) C rfl (k_fIm (by rw [← hres, f_X6_shR_s, if_pos c67, if_pos c94, if_pos c102])) dX6_shun_107
        exact hloop 21 0 (f_X2_become mi 1 0) (by omega) rfl
      · skip
        refine k_aload_n (pc := 37) C dX6_shun_37 rfl ?_
        refine k_bipush (pc := 38) (v := 10) C dX6_shun_38 (by decide) ?_
        refine k_iconst (pc := 40) (v := 5) C dX6_shun_40 (by decide) ?_
        refine k_call2 (pc := 41) C cv_X6_51 ct_X6_refuse k_in6 rfl (by decide) rfl (Nat.le_of_ble_eq_true rfl) dX6_shun_41 ?_
        exact k_iret (pc := 44) C rfl (k_fIm (by unfold f_X6_shun; rw [if_pos c5, if_pos c17, if_neg c34]; try rfl)) dX6_shun_44
    · skip
      refine k_aload_n (pc := 20) C dX6_shun_20 rfl ?_
      refine k_bipush (pc := 21) (v := 10) C dX6_shun_21 (by decide) ?_
      refine k_iconst (pc := 23) (v := 1) C dX6_shun_23 (by decide) ?_
      refine k_call2 (pc := 24) C cv_X6_51 ct_X6_refuse k_in6 rfl (by decide) rfl (Nat.le_of_ble_eq_true rfl) dX6_shun_24 ?_
      exact k_iret (pc := 27) C rfl (k_fIm (by unfold f_X6_shun; rw [if_pos c5, if_neg c17]; try rfl)) dX6_shun_27
  · skip
    refine k_call1 (pc := 5) C cv_X6_94 (ct_X2_citizenAt_n (by decide) c5) (k_in2 (by decide)) rfl (by decide) rfl (Nat.le_of_ble_eq_true rfl) dX6_shun_5 ?_
    refine k_astore_3 (pc := 8) C dX6_shun_8 rfl ?_
    refine k_aload_n (pc := 9) C dX6_shun_9 rfl ?_
    refine k_ifnullN (pc := 10) C 20 dX6_shun_10 (by decide) ?_
    refine k_aload_n (pc := 20) C dX6_shun_20 rfl ?_
    refine k_bipush (pc := 21) (v := 10) C dX6_shun_21 (by decide) ?_
    refine k_iconst (pc := 23) (v := 1) C dX6_shun_23 (by decide) ?_
    refine k_call2 (pc := 24) C cv_X6_51 ct_X6_refuse k_in6 rfl (by decide) rfl (Nat.le_of_ble_eq_true rfl) dX6_shun_24 ?_
    exact k_iret (pc := 27) C rfl (k_fIm (by unfold f_X6_shun; rw [if_neg c5]; try rfl)) dX6_shun_27
