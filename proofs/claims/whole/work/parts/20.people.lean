/-! Beggar, Citizen, Shelf: the methods without loops -/
def f_X1_isOpen (mi : MemI) (g : Nat) (i : Nat) : Int32 :=
  if (mi (1, g, i) 1) = 0 then 0
  else if (mi (1, g, i) 2) = 0 then 1
    else 0
theorem z_X1_isOpen {mi : MemI} {g : Nat} {i : Nat}  : (f_X1_isOpen mi g i) = 0 ∨ (f_X1_isOpen mi g i) = 1 := by
  unfold f_X1_isOpen
  by_cases zh1 : (mi (1, g, i) 1) = 0
  · rw [if_pos zh1]
    exact (Or.inl rfl)
  · rw [if_neg zh1]
    by_cases zh2 : (mi (1, g, i) 2) = 0
    · rw [if_pos zh2]
      exact (Or.inr rfl)
    · rw [if_neg zh2]
      exact (Or.inl rfl)
set_option maxRecDepth 100000 in
set_option maxHeartbeats 4000000 in
theorem ct_X1_isOpen {mi : MemI} {ml : MemL} {g : Nat} {i : Nat} (hg : g < 3) (hi : i < 6) : k_Ct k_KS k_R0 Mt_X1_isOpen 0 [vR (1, g, i)] mi ml (k_rt (some (vI (f_X1_isOpen mi g i))) mi ml) := by
  refine k_ofV (L0 := [vR (1, g, i)]) (by decide +kernel) (Nat.le_of_ble_eq_true rfl) rfl rfl ?_
  intro p l e s m args below meth c D cy ad bs C
  refine k_aload_n (pc := 0) C dX1_isOpen_0 rfl ?_
  refine k_getI (pc := 1) C fl_X1_15 (k_in1 hg hi) rfl rfl dX1_isOpen_1 ?_
  refine k_if_eq (pc := 4) C 18 dX1_isOpen_4 (by decide) (fun c4 => ?_) (fun c4 => ?_)
  · skip
    refine k_iconst (pc := 18) (v := 0) C dX1_isOpen_18 (by decide) ?_
    exact k_zret (pc := 19) C rfl (Or.inl rfl) (k_fI (by unfold f_X1_isOpen; rw [if_pos c4]; try rfl)) dX1_isOpen_19
  · skip
    refine k_aload_n (pc := 7) C dX1_isOpen_7 rfl ?_
    refine k_getI (pc := 8) C fl_X1_19 (k_in1 hg hi) rfl rfl dX1_isOpen_8 ?_
    refine k_if_ne (pc := 11) C 18 dX1_isOpen_11 (by decide) (fun c11 => ?_) (fun c11 => ?_)
    · skip
      refine k_iconst (pc := 18) (v := 0) C dX1_isOpen_18 (by decide) ?_
      exact k_zret (pc := 19) C rfl (Or.inl rfl) (k_fI (by unfold f_X1_isOpen; rw [if_neg c4, if_neg c11]; try rfl)) dX1_isOpen_19
    · skip
      refine k_iconst (pc := 14) (v := 1) C dX1_isOpen_14 (by decide) ?_
      refine k_goto (pc := 15) C 19 dX1_isOpen_15 (by decide) ?_
      exact k_zret (pc := 19) C rfl (Or.inr rfl) (k_fI (by unfold f_X1_isOpen; rw [if_neg c4, if_pos c11]; try rfl)) dX1_isOpen_19
def f_X1_unboundedFace (mi : MemI) (g : Nat) (i : Nat) : Int32 :=
  if (mi (1, g, i) 3) = 1 then ((mi (1, g, i) 6) - ((mi (1, g, i) 7) / 5))
  else if (mi (1, g, i) 3) = 2 then (((mi (1, g, i) 6) - ((mi (1, g, i) 7) / 10)) / 2)
    else if (mi (1, g, i) 3) = 3 then ((((mi (1, g, i) 6) - ((mi (1, g, i) 7) / 10)) / 2) + (mi (1, g, i) 4))
      else if (mi (1, g, i) 3) = 4 then (((mi (1, g, i) 6) - ((mi (1, g, i) 7) / 10)) + (mi (1, g, i) 8))
        else if (mi (1, g, i) 3) = 5 then if (mi (1, g, i) 5) = 0 then ((((mi (1, g, i) 6) - ((mi (1, g, i) 7) / 10)) + (mi (1, g, i) 8)) + 1)
            else (((mi (1, g, i) 6) - ((mi (1, g, i) 7) / 10)) + (mi (1, g, i) 8))
          else if (mi (1, g, i) 3) = 6 then (((((mi (1, g, i) 6) - ((mi (1, g, i) 7) / 10)) / 2) + (mi (1, g, i) 4)) - 3)
            else ((mi (1, g, i) 6) - ((mi (1, g, i) 7) / 10))
set_option maxRecDepth 100000 in
set_option maxHeartbeats 4000000 in
theorem ct_X1_unboundedFace {mi : MemI} {ml : MemL} {g : Nat} {i : Nat} (hg : g < 3) (hi : i < 6) : k_Ct k_KS k_R0 Mt_X1_unboundedFace 0 [vR (1, g, i)] mi ml (k_rt (some (vI (f_X1_unboundedFace mi g i))) mi ml) := by
  refine k_ofV (L0 := [vR (1, g, i), vU, vU, vU]) (by decide +kernel) (Nat.le_of_ble_eq_true rfl) rfl rfl ?_
  intro p l e s m args below meth c D cy ad bs C
  refine k_aload_n (pc := 0) C dX1_unboundedFace_0 rfl ?_
  refine k_getI (pc := 1) C fl_X1_31 (k_in1 hg hi) rfl rfl dX1_unboundedFace_1 ?_
  refine k_aload_n (pc := 4) C dX1_unboundedFace_4 rfl ?_
  refine k_getI (pc := 5) C fl_X1_34 (k_in1 hg hi) rfl rfl dX1_unboundedFace_5 ?_
  refine k_bipush (pc := 8) (v := 10) C dX1_unboundedFace_8 (by decide) ?_
  refine k_idiv (pc := 10) C dX1_unboundedFace_10 (by decide) ?_
  refine k_isub (pc := 11) C dX1_unboundedFace_11 ?_
  refine k_istore_1 (pc := 12) C dX1_unboundedFace_12 rfl ?_
  refine k_iload_n (pc := 13) C dX1_unboundedFace_13 rfl ?_
  refine k_iconst (pc := 14) (v := 2) C dX1_unboundedFace_14 (by decide) ?_
  refine k_idiv (pc := 15) C dX1_unboundedFace_15 (by decide) ?_
  refine k_istore_2 (pc := 16) C dX1_unboundedFace_16 rfl ?_
  refine k_iload_n (pc := 17) C dX1_unboundedFace_17 rfl ?_
  refine k_aload_n (pc := 18) C dX1_unboundedFace_18 rfl ?_
  refine k_getI (pc := 19) C fl_X1_37 (k_in1 hg hi) rfl rfl dX1_unboundedFace_19 ?_
  refine k_iadd (pc := 22) C dX1_unboundedFace_22 ?_
  refine k_istore_3 (pc := 23) C dX1_unboundedFace_23 rfl ?_
  refine k_aload_n (pc := 24) C dX1_unboundedFace_24 rfl ?_
  refine k_getI (pc := 25) C fl_X1_22 (k_in1 hg hi) rfl rfl dX1_unboundedFace_25 ?_
  by_cases c28_1 : (mi (1, g, i) 3) = 1
  · skip
    refine k_tabIn (pc := 28) (v := 1) C 68 dX1_unboundedFace_28 c28_1 (by decide) (by decide) rfl (by decide) ?_
    refine k_aload_n (pc := 68) C dX1_unboundedFace_68 rfl ?_
    refine k_getI (pc := 69) C fl_X1_31 (k_in1 hg hi) rfl rfl dX1_unboundedFace_69 ?_
    refine k_aload_n (pc := 72) C dX1_unboundedFace_72 rfl ?_
    refine k_getI (pc := 73) C fl_X1_34 (k_in1 hg hi) rfl rfl dX1_unboundedFace_73 ?_
    refine k_iconst (pc := 76) (v := 5) C dX1_unboundedFace_76 (by decide) ?_
    refine k_idiv (pc := 77) C dX1_unboundedFace_77 (by decide) ?_
    refine k_isub (pc := 78) C dX1_unboundedFace_78 ?_
    exact k_iret (pc := 79) C rfl (k_fI (by unfold f_X1_unboundedFace; rw [if_pos c28_1]; try rfl)) dX1_unboundedFace_79
  by_cases c28_2 : (mi (1, g, i) 3) = 2
  · skip
    refine k_tabIn (pc := 28) (v := 2) C 80 dX1_unboundedFace_28 c28_2 (by decide) (by decide) rfl (by decide) ?_
    refine k_iload_n (pc := 80) C dX1_unboundedFace_80 rfl ?_
    exact k_iret (pc := 81) C rfl (k_fI (by unfold f_X1_unboundedFace; rw [if_neg c28_1, if_pos c28_2]; try rfl)) dX1_unboundedFace_81
  by_cases c28_3 : (mi (1, g, i) 3) = 3
  · skip
    refine k_tabIn (pc := 28) (v := 3) C 82 dX1_unboundedFace_28 c28_3 (by decide) (by decide) rfl (by decide) ?_
    refine k_iload_n (pc := 82) C dX1_unboundedFace_82 rfl ?_
    refine k_aload_n (pc := 83) C dX1_unboundedFace_83 rfl ?_
    refine k_getI (pc := 84) C fl_X1_25 (k_in1 hg hi) rfl rfl dX1_unboundedFace_84 ?_
    refine k_iadd (pc := 87) C dX1_unboundedFace_87 ?_
    exact k_iret (pc := 88) C rfl (k_fI (by unfold f_X1_unboundedFace; rw [if_neg c28_1, if_neg c28_2, if_pos c28_3]; try rfl)) dX1_unboundedFace_88
  by_cases c28_4 : (mi (1, g, i) 3) = 4
  · skip
    refine k_tabIn (pc := 28) (v := 4) C 98 dX1_unboundedFace_28 c28_4 (by decide) (by decide) rfl (by decide) ?_
    refine k_iload_n (pc := 98) C dX1_unboundedFace_98 rfl ?_
    exact k_iret (pc := 99) C rfl (k_fI (by unfold f_X1_unboundedFace; rw [if_neg c28_1, if_neg c28_2, if_neg c28_3, if_pos c28_4]; try rfl)) dX1_unboundedFace_99
  by_cases c28_5 : (mi (1, g, i) 3) = 5
  · skip
    refine k_tabIn (pc := 28) (v := 5) C 100 dX1_unboundedFace_28 c28_5 (by decide) (by decide) rfl (by decide) ?_
    refine k_aload_n (pc := 100) C dX1_unboundedFace_100 rfl ?_
    refine k_getI (pc := 101) C fl_X1_28 (k_in1 hg hi) rfl rfl dX1_unboundedFace_101 ?_
    refine k_if_ne (pc := 104) C 113 dX1_unboundedFace_104 (by decide) (fun c104 => ?_) (fun c104 => ?_)
    · skip
      refine k_iload_n (pc := 113) C dX1_unboundedFace_113 rfl ?_
      exact k_iret (pc := 114) C rfl (k_fI (by unfold f_X1_unboundedFace; rw [if_neg c28_1, if_neg c28_2, if_neg c28_3, if_neg c28_4, if_pos c28_5, if_neg c104]; try rfl)) dX1_unboundedFace_114
    · skip
      refine k_iload_n (pc := 107) C dX1_unboundedFace_107 rfl ?_
      refine k_iconst (pc := 108) (v := 1) C dX1_unboundedFace_108 (by decide) ?_
      refine k_iadd (pc := 109) C dX1_unboundedFace_109 ?_
      refine k_goto (pc := 110) C 114 dX1_unboundedFace_110 (by decide) ?_
      exact k_iret (pc := 114) C rfl (k_fI (by unfold f_X1_unboundedFace; rw [if_neg c28_1, if_neg c28_2, if_neg c28_3, if_neg c28_4, if_pos c28_5, if_pos c104]; try rfl)) dX1_unboundedFace_114
  by_cases c28_6 : (mi (1, g, i) 3) = 6
  · skip
    refine k_tabIn (pc := 28) (v := 6) C 89 dX1_unboundedFace_28 c28_6 (by decide) (by decide) rfl (by decide) ?_
    refine k_iload_n (pc := 89) C dX1_unboundedFace_89 rfl ?_
    refine k_aload_n (pc := 90) C dX1_unboundedFace_90 rfl ?_
    refine k_getI (pc := 91) C fl_X1_25 (k_in1 hg hi) rfl rfl dX1_unboundedFace_91 ?_
    refine k_iadd (pc := 94) C dX1_unboundedFace_94 ?_
    refine k_iconst (pc := 95) (v := 3) C dX1_unboundedFace_95 (by decide) ?_
    refine k_isub (pc := 96) C dX1_unboundedFace_96 ?_
    exact k_iret (pc := 97) C rfl (k_fI (by unfold f_X1_unboundedFace; rw [if_neg c28_1, if_neg c28_2, if_neg c28_3, if_neg c28_4, if_neg c28_5, if_pos c28_6]; try rfl)) dX1_unboundedFace_97
  refine k_tabOut (pc := 28) C 115 dX1_unboundedFace_28 (k_out 1 6 (fun v h1 h2 => by rcases (show v = 1 ∨ v = 2 ∨ v = 3 ∨ v = 4 ∨ v = 5 ∨ v = 6 by omega) with rfl | rfl | rfl | rfl | rfl | rfl <;> first | exact c28_1 | exact c28_2 | exact c28_3 | exact c28_4 | exact c28_5 | exact c28_6)) (by decide) ?_
  refine k_iload_n (pc := 115) C dX1_unboundedFace_115 rfl ?_
  exact k_iret (pc := 116) C rfl (k_fI (by unfold f_X1_unboundedFace; rw [if_neg c28_1, if_neg c28_2, if_neg c28_3, if_neg c28_4, if_neg c28_5, if_neg c28_6]; try rfl)) dX1_unboundedFace_116
def f_X1_faceNow (mi : MemI) (g : Nat) (i : Nat) : Int32 :=
  (k_mx 0 (k_mn 30 (f_X1_unboundedFace mi g i)))
set_option maxRecDepth 100000 in
set_option maxHeartbeats 4000000 in
theorem ct_X1_faceNow {mi : MemI} {ml : MemL} {g : Nat} {i : Nat} (hg : g < 3) (hi : i < 6) : k_Ct k_KS k_R0 Mt_X1_faceNow 1 [vR (1, g, i)] mi ml (k_rt (some (vI (f_X1_faceNow mi g i))) mi ml) := by
  refine k_ofV (L0 := [vR (1, g, i)]) (by decide +kernel) (Nat.le_of_ble_eq_true rfl) rfl rfl ?_
  intro p l e s m args below meth c D cy ad bs C
  refine k_iconst (pc := 0) (v := 0) C dX1_faceNow_0 (by decide) ?_
  refine k_bipush (pc := 1) (v := 30) C dX1_faceNow_1 (by decide) ?_
  refine k_aload_n (pc := 3) C dX1_faceNow_3 rfl ?_
  refine k_call0 (pc := 4) C cv_X1_40 (ct_X1_unboundedFace hg hi) (k_in1 hg hi) rfl (by decide) rfl (Nat.le_of_ble_eq_true rfl) dX1_faceNow_4 ?_
  refine k_mmin (pc := 7) C cm_X1_44 cm_min_s cm_i cm_min_c (by decide) rfl (Nat.le_of_ble_eq_true rfl) dX1_faceNow_7 ?_
  refine k_mmax (pc := 10) C cm_X1_50 cm_max_s cm_i cm_max_c (by decide) rfl (Nat.le_of_ble_eq_true rfl) dX1_faceNow_10 ?_
  exact k_iret (pc := 13) C rfl (k_fI rfl) dX1_faceNow_13
def f_X1_saysAs (mi : MemI) (g : Nat) (i : Nat) (w : Int32) : Int32 :=
  if w = 0 then (f_X1_faceNow mi g i)
  else if w = 1 then (mi (1, g, i) 7)
    else if w = 2 then (mi (1, g, i) 4)
      else if w = 3 then (mi (1, g, i) 4)
        else if w = 4 then (mi (1, g, i) 8)
          else if w = 5 then (mi (1, g, i) 8)
            else (mi (1, g, i) 4)
set_option maxRecDepth 100000 in
set_option maxHeartbeats 4000000 in
theorem ct_X1_saysAs {mi : MemI} {ml : MemL} {g : Nat} {i : Nat} {w : Int32} (hg : g < 3) (hi : i < 6) : k_Ct k_KS k_R0 Mt_X1_saysAs 2 [vR (1, g, i), vI w] mi ml (k_rt (some (vI (f_X1_saysAs mi g i w))) mi ml) := by
  refine k_ofV (L0 := [vR (1, g, i), vI w]) (by decide +kernel) (Nat.le_of_ble_eq_true rfl) rfl rfl ?_
  intro p l e s m args below meth c D cy ad bs C
  refine k_iload_n (pc := 0) C dX1_saysAs_0 rfl ?_
  by_cases c1_0 : w = 0
  · skip
    refine k_tabIn (pc := 1) (v := 0) C 40 dX1_saysAs_1 c1_0 (by decide) (by decide) rfl (by decide) ?_
    refine k_aload_n (pc := 40) C dX1_saysAs_40 rfl ?_
    refine k_call0 (pc := 41) C cv_X1_53 (ct_X1_faceNow hg hi) (k_in1 hg hi) rfl (by decide) rfl (Nat.le_of_ble_eq_true rfl) dX1_saysAs_41 ?_
    exact k_iret (pc := 44) C rfl (k_fI (by unfold f_X1_saysAs; rw [if_pos c1_0]; try rfl)) dX1_saysAs_44
  by_cases c1_1 : w = 1
  · skip
    refine k_tabIn (pc := 1) (v := 1) C 45 dX1_saysAs_1 c1_1 (by decide) (by decide) rfl (by decide) ?_
    refine k_aload_n (pc := 45) C dX1_saysAs_45 rfl ?_
    refine k_getI (pc := 46) C fl_X1_34 (k_in1 hg hi) rfl rfl dX1_saysAs_46 ?_
    exact k_iret (pc := 49) C rfl (k_fI (by unfold f_X1_saysAs; rw [if_neg c1_0, if_pos c1_1]; try rfl)) dX1_saysAs_49
  by_cases c1_2 : w = 2
  · skip
    refine k_tabIn (pc := 1) (v := 2) C 60 dX1_saysAs_1 c1_2 (by decide) (by decide) rfl (by decide) ?_
    refine k_aload_n (pc := 60) C dX1_saysAs_60 rfl ?_
    refine k_getI (pc := 61) C fl_X1_25 (k_in1 hg hi) rfl rfl dX1_saysAs_61 ?_
    exact k_iret (pc := 64) C rfl (k_fI (by unfold f_X1_saysAs; rw [if_neg c1_0, if_neg c1_1, if_pos c1_2]; try rfl)) dX1_saysAs_64
  by_cases c1_3 : w = 3
  · skip
    refine k_tabIn (pc := 1) (v := 3) C 60 dX1_saysAs_1 c1_3 (by decide) (by decide) rfl (by decide) ?_
    refine k_aload_n (pc := 60) C dX1_saysAs_60 rfl ?_
    refine k_getI (pc := 61) C fl_X1_25 (k_in1 hg hi) rfl rfl dX1_saysAs_61 ?_
    exact k_iret (pc := 64) C rfl (k_fI (by unfold f_X1_saysAs; rw [if_neg c1_0, if_neg c1_1, if_neg c1_2, if_pos c1_3]; try rfl)) dX1_saysAs_64
  by_cases c1_4 : w = 4
  · skip
    refine k_tabIn (pc := 1) (v := 4) C 50 dX1_saysAs_1 c1_4 (by decide) (by decide) rfl (by decide) ?_
    refine k_aload_n (pc := 50) C dX1_saysAs_50 rfl ?_
    refine k_getI (pc := 51) C fl_X1_37 (k_in1 hg hi) rfl rfl dX1_saysAs_51 ?_
    exact k_iret (pc := 54) C rfl (k_fI (by unfold f_X1_saysAs; rw [if_neg c1_0, if_neg c1_1, if_neg c1_2, if_neg c1_3, if_pos c1_4]; try rfl)) dX1_saysAs_54
  by_cases c1_5 : w = 5
  · skip
    refine k_tabIn (pc := 1) (v := 5) C 55 dX1_saysAs_1 c1_5 (by decide) (by decide) rfl (by decide) ?_
    refine k_aload_n (pc := 55) C dX1_saysAs_55 rfl ?_
    refine k_getI (pc := 56) C fl_X1_37 (k_in1 hg hi) rfl rfl dX1_saysAs_56 ?_
    exact k_iret (pc := 59) C rfl (k_fI (by unfold f_X1_saysAs; rw [if_neg c1_0, if_neg c1_1, if_neg c1_2, if_neg c1_3, if_neg c1_4, if_pos c1_5]; try rfl)) dX1_saysAs_59
  refine k_tabOut (pc := 1) C 60 dX1_saysAs_1 (k_out 0 5 (fun v h1 h2 => by rcases (show v = 0 ∨ v = 1 ∨ v = 2 ∨ v = 3 ∨ v = 4 ∨ v = 5 by omega) with rfl | rfl | rfl | rfl | rfl | rfl <;> first | exact c1_0 | exact c1_1 | exact c1_2 | exact c1_3 | exact c1_4 | exact c1_5)) (by decide) ?_
  refine k_aload_n (pc := 60) C dX1_saysAs_60 rfl ?_
  refine k_getI (pc := 61) C fl_X1_25 (k_in1 hg hi) rfl rfl dX1_saysAs_61 ?_
  exact k_iret (pc := 64) C rfl (k_fI (by unfold f_X1_saysAs; rw [if_neg c1_0, if_neg c1_1, if_neg c1_2, if_neg c1_3, if_neg c1_4, if_neg c1_5]; try rfl)) dX1_saysAs_64
def f_X1_becomes (mi : MemI) (g : Nat) (i : Nat) (w : Int32) (v : Int32) : Int32 × MemI :=
  if w = 0 then if (mi (1, g, i) 2) = 0 then if v = 1 then (0, k_ui mi (1, g, i) 2 1)
      else (0, k_ui mi (1, g, i) 2 0)
    else if v = 1 then (1, k_ui mi (1, g, i) 2 1)
      else (1, k_ui mi (1, g, i) 2 0)
  else if w = 1 then (mi (1, g, i) 7, k_ui mi (1, g, i) 7 v)
    else if w = 2 then (mi (1, g, i) 6, k_ui mi (1, g, i) 6 v)
      else (mi (1, g, i) 5, k_ui mi (1, g, i) 5 v)
set_option maxRecDepth 100000 in
set_option maxHeartbeats 4000000 in
theorem ct_X1_becomes {mi : MemI} {ml : MemL} {g : Nat} {i : Nat} {w : Int32} {v : Int32} (hg : g < 3) (hi : i < 6) : k_Ct k_KS k_R0 Mt_X1_becomes 0 [vR (1, g, i), vI w, vI v] mi ml (k_rt (some (vI (f_X1_becomes mi g i w v).1)) (f_X1_becomes mi g i w v).2 ml) := by
  refine k_ofV (L0 := [vR (1, g, i), vI w, vI v, vU]) (by decide +kernel) (Nat.le_of_ble_eq_true rfl) rfl rfl ?_
  intro p l e s m args below meth c D cy ad bs C
  refine k_iload_n (pc := 0) C dX1_becomes_0 rfl ?_
  by_cases c1_0 : w = 0
  · skip
    refine k_tabIn (pc := 1) (v := 0) C 28 dX1_becomes_1 c1_0 (by decide) (by decide) rfl (by decide) ?_
    refine k_aload_n (pc := 28) C dX1_becomes_28 rfl ?_
    refine k_getI (pc := 29) C fl_X1_19 (k_in1 hg hi) rfl rfl dX1_becomes_29 ?_
    refine k_if_eq (pc := 32) C 39 dX1_becomes_32 (by decide) (fun c32 => ?_) (fun c32 => ?_)
    · skip
      refine k_iconst (pc := 39) (v := 0) C dX1_becomes_39 (by decide) ?_
      refine k_istore_3 (pc := 40) C dX1_becomes_40 rfl ?_
      refine k_aload_n (pc := 41) C dX1_becomes_41 rfl ?_
      refine k_iload_n (pc := 42) C dX1_becomes_42 rfl ?_
      refine k_iconst (pc := 43) (v := 1) C dX1_becomes_43 (by decide) ?_
      refine k_icmp_ne (pc := 44) C 51 dX1_becomes_44 (by decide) (fun c44 => ?_) (fun c44 => ?_)
      · skip
        refine k_iconst (pc := 51) (v := 0) C dX1_becomes_51 (by decide) ?_
        refine k_putZ (pc := 52) C (Or.inl rfl) pl_X1_19 (k_in1 hg hi) rfl rfl dX1_becomes_52 ?_
        refine k_iload_n (pc := 55) C dX1_becomes_55 rfl ?_
        exact k_iret (pc := 56) C rfl (k_fIm (by unfold f_X1_becomes; rw [if_pos c1_0, if_pos c32, if_neg c44]; try rfl)) dX1_becomes_56
      · skip
        refine k_iconst (pc := 47) (v := 1) C dX1_becomes_47 (by decide) ?_
        refine k_goto (pc := 48) C 52 dX1_becomes_48 (by decide) ?_
        refine k_putZ (pc := 52) C (Or.inr rfl) pl_X1_19 (k_in1 hg hi) rfl rfl dX1_becomes_52 ?_
        refine k_iload_n (pc := 55) C dX1_becomes_55 rfl ?_
        exact k_iret (pc := 56) C rfl (k_fIm (by unfold f_X1_becomes; rw [if_pos c1_0, if_pos c32, if_pos c44]; try rfl)) dX1_becomes_56
    · skip
      refine k_iconst (pc := 35) (v := 1) C dX1_becomes_35 (by decide) ?_
      refine k_goto (pc := 36) C 40 dX1_becomes_36 (by decide) ?_
      refine k_istore_3 (pc := 40) C dX1_becomes_40 rfl ?_
      refine k_aload_n (pc := 41) C dX1_becomes_41 rfl ?_
      refine k_iload_n (pc := 42) C dX1_becomes_42 rfl ?_
      refine k_iconst (pc := 43) (v := 1) C dX1_becomes_43 (by decide) ?_
      refine k_icmp_ne (pc := 44) C 51 dX1_becomes_44 (by decide) (fun c44 => ?_) (fun c44 => ?_)
      · skip
        refine k_iconst (pc := 51) (v := 0) C dX1_becomes_51 (by decide) ?_
        refine k_putZ (pc := 52) C (Or.inl rfl) pl_X1_19 (k_in1 hg hi) rfl rfl dX1_becomes_52 ?_
        refine k_iload_n (pc := 55) C dX1_becomes_55 rfl ?_
        exact k_iret (pc := 56) C rfl (k_fIm (by unfold f_X1_becomes; rw [if_pos c1_0, if_neg c32, if_neg c44]; try rfl)) dX1_becomes_56
      · skip
        refine k_iconst (pc := 47) (v := 1) C dX1_becomes_47 (by decide) ?_
        refine k_goto (pc := 48) C 52 dX1_becomes_48 (by decide) ?_
        refine k_putZ (pc := 52) C (Or.inr rfl) pl_X1_19 (k_in1 hg hi) rfl rfl dX1_becomes_52 ?_
        refine k_iload_n (pc := 55) C dX1_becomes_55 rfl ?_
        exact k_iret (pc := 56) C rfl (k_fIm (by unfold f_X1_becomes; rw [if_pos c1_0, if_neg c32, if_pos c44]; try rfl)) dX1_becomes_56
  by_cases c1_1 : w = 1
  · skip
    refine k_tabIn (pc := 1) (v := 1) C 57 dX1_becomes_1 c1_1 (by decide) (by decide) rfl (by decide) ?_
    refine k_aload_n (pc := 57) C dX1_becomes_57 rfl ?_
    refine k_getI (pc := 58) C fl_X1_34 (k_in1 hg hi) rfl rfl dX1_becomes_58 ?_
    refine k_istore_3 (pc := 61) C dX1_becomes_61 rfl ?_
    refine k_aload_n (pc := 62) C dX1_becomes_62 rfl ?_
    refine k_iload_n (pc := 63) C dX1_becomes_63 rfl ?_
    refine k_putI (pc := 64) C pl_X1_34 (k_in1 hg hi) rfl rfl dX1_becomes_64 ?_
    refine k_iload_n (pc := 67) C dX1_becomes_67 rfl ?_
    exact k_iret (pc := 68) C rfl (k_fIm (by unfold f_X1_becomes; rw [if_neg c1_0, if_pos c1_1]; try rfl)) dX1_becomes_68
  by_cases c1_2 : w = 2
  · skip
    refine k_tabIn (pc := 1) (v := 2) C 69 dX1_becomes_1 c1_2 (by decide) (by decide) rfl (by decide) ?_
    refine k_aload_n (pc := 69) C dX1_becomes_69 rfl ?_
    refine k_getI (pc := 70) C fl_X1_31 (k_in1 hg hi) rfl rfl dX1_becomes_70 ?_
    refine k_istore_3 (pc := 73) C dX1_becomes_73 rfl ?_
    refine k_aload_n (pc := 74) C dX1_becomes_74 rfl ?_
    refine k_iload_n (pc := 75) C dX1_becomes_75 rfl ?_
    refine k_putI (pc := 76) C pl_X1_31 (k_in1 hg hi) rfl rfl dX1_becomes_76 ?_
    refine k_iload_n (pc := 79) C dX1_becomes_79 rfl ?_
    exact k_iret (pc := 80) C rfl (k_fIm (by unfold f_X1_becomes; rw [if_neg c1_0, if_neg c1_1, if_pos c1_2]; try rfl)) dX1_becomes_80
  refine k_tabOut (pc := 1) C 81 dX1_becomes_1 (k_out 0 2 (fun v h1 h2 => by rcases (show v = 0 ∨ v = 1 ∨ v = 2 by omega) with rfl | rfl | rfl <;> first | exact c1_0 | exact c1_1 | exact c1_2)) (by decide) ?_
  refine k_aload_n (pc := 81) C dX1_becomes_81 rfl ?_
  refine k_getI (pc := 82) C fl_X1_28 (k_in1 hg hi) rfl rfl dX1_becomes_82 ?_
  refine k_istore_3 (pc := 85) C dX1_becomes_85 rfl ?_
  refine k_aload_n (pc := 86) C dX1_becomes_86 rfl ?_
  refine k_iload_n (pc := 87) C dX1_becomes_87 rfl ?_
  refine k_putI (pc := 88) C pl_X1_28 (k_in1 hg hi) rfl rfl dX1_becomes_88 ?_
  refine k_iload_n (pc := 91) C dX1_becomes_91 rfl ?_
  exact k_iret (pc := 92) C rfl (k_fIm (by unfold f_X1_becomes; rw [if_neg c1_0, if_neg c1_1, if_neg c1_2]; try rfl)) dX1_becomes_92
def f_X1_beginMorning (mi : MemI) (g : Nat) (i : Nat) : MemI :=
  (k_ui (k_ui (k_ui (k_ui (k_ui mi (1, g, i) 9 (f_X1_faceNow mi g i)) (1, g, i) 10 0) (1, g, i) 11 0) (1, g, i) 12 0) (1, g, i) 13 0)
set_option maxRecDepth 100000 in
set_option maxHeartbeats 4000000 in
theorem ct_X1_beginMorning {mi : MemI} {ml : MemL} {g : Nat} {i : Nat} (hg : g < 3) (hi : i < 6) : k_Ct k_KS k_R0 Mt_X1_beginMorning 2 [vR (1, g, i)] mi ml (k_rt none (f_X1_beginMorning mi g i) ml) := by
  refine k_ofV (L0 := [vR (1, g, i)]) (by decide +kernel) (Nat.le_of_ble_eq_true rfl) rfl rfl ?_
  intro p l e s m args below meth c D cy ad bs C
  refine k_aload_n (pc := 0) C dX1_beginMorning_0 rfl ?_
  refine k_aload_n (pc := 1) C dX1_beginMorning_1 rfl ?_
  refine k_call0 (pc := 2) C cv_X1_53 (ct_X1_faceNow hg hi) (k_in1 hg hi) rfl (by decide) rfl (Nat.le_of_ble_eq_true rfl) dX1_beginMorning_2 ?_
  refine k_putI (pc := 5) C pl_X1_56 (k_in1 hg hi) rfl rfl dX1_beginMorning_5 ?_
  refine k_aload_n (pc := 8) C dX1_beginMorning_8 rfl ?_
  refine k_iconst (pc := 9) (v := 0) C dX1_beginMorning_9 (by decide) ?_
  refine k_putI (pc := 10) C pl_X1_59 (k_in1 hg hi) rfl rfl dX1_beginMorning_10 ?_
  refine k_aload_n (pc := 13) C dX1_beginMorning_13 rfl ?_
  refine k_iconst (pc := 14) (v := 0) C dX1_beginMorning_14 (by decide) ?_
  refine k_putI (pc := 15) C pl_X1_62 (k_in1 hg hi) rfl rfl dX1_beginMorning_15 ?_
  refine k_aload_n (pc := 18) C dX1_beginMorning_18 rfl ?_
  refine k_iconst (pc := 19) (v := 0) C dX1_beginMorning_19 (by decide) ?_
  refine k_putI (pc := 20) C pl_X1_65 (k_in1 hg hi) rfl rfl dX1_beginMorning_20 ?_
  refine k_aload_n (pc := 23) C dX1_beginMorning_23 rfl ?_
  refine k_iconst (pc := 24) (v := 0) C dX1_beginMorning_24 (by decide) ?_
  refine k_putI (pc := 25) C pl_X1_68 (k_in1 hg hi) rfl rfl dX1_beginMorning_25 ?_
  exact k_vret (pc := 28) C rfl (k_fm rfl) dX1_beginMorning_28
def f_X1_keeps (mi : MemI) (g : Nat) (i : Nat) (n : Int32) : Int32 × MemI :=
  if (mi (1, g, i) 3) = 5 then if (mi (1, g, i) 4) < n then if ((mi (1, g, i) 12) + n) ≤ (mi (1, g, i) 5) then (1, k_ui (k_ui mi (1, g, i) 12 ((mi (1, g, i) 12) + n)) (1, g, i) 13 (((k_ui mi (1, g, i) 12 ((mi (1, g, i) 12) + n)) (1, g, i) 13) + n))
      else (0, mi)
    else (1, k_ui mi (1, g, i) 13 ((mi (1, g, i) 13) + n))
  else if ((mi (1, g, i) 12) + n) ≤ (mi (1, g, i) 5) then (1, k_ui (k_ui mi (1, g, i) 12 ((mi (1, g, i) 12) + n)) (1, g, i) 13 (((k_ui mi (1, g, i) 12 ((mi (1, g, i) 12) + n)) (1, g, i) 13) + n))
    else (0, mi)
theorem z_X1_keeps {mi : MemI} {g : Nat} {i : Nat} {n : Int32}  : (f_X1_keeps mi g i n).1 = 0 ∨ (f_X1_keeps mi g i n).1 = 1 := by
  unfold f_X1_keeps
  by_cases zh1 : (mi (1, g, i) 3) = 5
  · rw [if_pos zh1]
    by_cases zh2 : (mi (1, g, i) 4) < n
    · rw [if_pos zh2]
      by_cases zh3 : ((mi (1, g, i) 12) + n) ≤ (mi (1, g, i) 5)
      · rw [if_pos zh3]
        exact (Or.inr rfl)
      · rw [if_neg zh3]
        exact (Or.inl rfl)
    · rw [if_neg zh2]
      exact (Or.inr rfl)
  · rw [if_neg zh1]
    by_cases zh4 : ((mi (1, g, i) 12) + n) ≤ (mi (1, g, i) 5)
    · rw [if_pos zh4]
      exact (Or.inr rfl)
    · rw [if_neg zh4]
      exact (Or.inl rfl)
set_option maxRecDepth 100000 in
set_option maxHeartbeats 4000000 in
theorem ct_X1_keeps {mi : MemI} {ml : MemL} {g : Nat} {i : Nat} {n : Int32} (hg : g < 3) (hi : i < 6) : k_Ct k_KS k_R0 Mt_X1_keeps 0 [vR (1, g, i), vI n] mi ml (k_rt (some (vI (f_X1_keeps mi g i n).1)) (f_X1_keeps mi g i n).2 ml) := by
  refine k_ofV (L0 := [vR (1, g, i), vI n, vU]) (by decide +kernel) (Nat.le_of_ble_eq_true rfl) rfl rfl ?_
  intro p l e s m args below meth c D cy ad bs C
  refine k_aload_n (pc := 0) C dX1_keeps_0 rfl ?_
  refine k_getI (pc := 1) C fl_X1_22 (k_in1 hg hi) rfl rfl dX1_keeps_1 ?_
  refine k_iconst (pc := 4) (v := 5) C dX1_keeps_4 (by decide) ?_
  refine k_icmp_ne (pc := 5) C 20 dX1_keeps_5 (by decide) (fun c5 => ?_) (fun c5 => ?_)
  · skip
    refine k_iconst (pc := 20) (v := 0) C dX1_keeps_20 (by decide) ?_
    refine k_istore_2 (pc := 21) C dX1_keeps_21 rfl ?_
    refine k_iload_n (pc := 22) C dX1_keeps_22 rfl ?_
    refine k_if_neF (pc := 23) C 41 dX1_keeps_23 (by decide) (by decide) ?_
    refine k_aload_n (pc := 26) C dX1_keeps_26 rfl ?_
    refine k_getI (pc := 27) C fl_X1_65 (k_in1 hg hi) rfl rfl dX1_keeps_27 ?_
    refine k_iload_n (pc := 30) C dX1_keeps_30 rfl ?_
    refine k_iadd (pc := 31) C dX1_keeps_31 ?_
    refine k_aload_n (pc := 32) C dX1_keeps_32 rfl ?_
    refine k_getI (pc := 33) C fl_X1_28 (k_in1 hg hi) rfl rfl dX1_keeps_33 ?_
    refine k_icmp_le (pc := 36) C 41 dX1_keeps_36 (by decide) (fun c36 => ?_) (fun c36 => ?_)
    · skip
      refine k_iload_n (pc := 41) C dX1_keeps_41 rfl ?_
      refine k_if_neF (pc := 42) C 55 dX1_keeps_42 (by decide) (by decide) ?_
      refine k_aload_n (pc := 45) C dX1_keeps_45 rfl ?_
      refine k_dup (pc := 46) C dX1_keeps_46 rfl ?_
      refine k_getI (pc := 47) C fl_X1_65 (k_in1 hg hi) rfl rfl dX1_keeps_47 ?_
      refine k_iload_n (pc := 50) C dX1_keeps_50 rfl ?_
      refine k_iadd (pc := 51) C dX1_keeps_51 ?_
      refine k_putI (pc := 52) C pl_X1_65 (k_in1 hg hi) rfl rfl dX1_keeps_52 ?_
      refine k_aload_n (pc := 55) C dX1_keeps_55 rfl ?_
      refine k_dup (pc := 56) C dX1_keeps_56 rfl ?_
      refine k_getI (pc := 57) C fl_X1_68 (k_in1 hg hi) rfl rfl dX1_keeps_57 ?_
      refine k_iload_n (pc := 60) C dX1_keeps_60 rfl ?_
      refine k_iadd (pc := 61) C dX1_keeps_61 ?_
      refine k_putI (pc := 62) C pl_X1_68 (k_in1 hg hi) rfl rfl dX1_keeps_62 ?_
      refine k_iconst (pc := 65) (v := 1) C dX1_keeps_65 (by decide) ?_
      exact k_zret (pc := 66) C rfl (Or.inr rfl) (k_fIm (by unfold f_X1_keeps; rw [if_neg c5, if_pos c36]; try rfl)) dX1_keeps_66
    · skip
      refine k_iconst (pc := 39) (v := 0) C dX1_keeps_39 (by decide) ?_
      exact k_zret (pc := 40) C rfl (Or.inl rfl) (k_fIm (by unfold f_X1_keeps; rw [if_neg c5, if_neg c36]; try rfl)) dX1_keeps_40
  · skip
    refine k_iload_n (pc := 8) C dX1_keeps_8 rfl ?_
    refine k_aload_n (pc := 9) C dX1_keeps_9 rfl ?_
    refine k_getI (pc := 10) C fl_X1_25 (k_in1 hg hi) rfl rfl dX1_keeps_10 ?_
    refine k_icmp_gt (pc := 13) C 20 dX1_keeps_13 (by decide) (fun c13 => ?_) (fun c13 => ?_)
    · skip
      refine k_iconst (pc := 20) (v := 0) C dX1_keeps_20 (by decide) ?_
      refine k_istore_2 (pc := 21) C dX1_keeps_21 rfl ?_
      refine k_iload_n (pc := 22) C dX1_keeps_22 rfl ?_
      refine k_if_neF (pc := 23) C 41 dX1_keeps_23 (by decide) (by decide) ?_
      refine k_aload_n (pc := 26) C dX1_keeps_26 rfl ?_
      refine k_getI (pc := 27) C fl_X1_65 (k_in1 hg hi) rfl rfl dX1_keeps_27 ?_
      refine k_iload_n (pc := 30) C dX1_keeps_30 rfl ?_
      refine k_iadd (pc := 31) C dX1_keeps_31 ?_
      refine k_aload_n (pc := 32) C dX1_keeps_32 rfl ?_
      refine k_getI (pc := 33) C fl_X1_28 (k_in1 hg hi) rfl rfl dX1_keeps_33 ?_
      refine k_icmp_le (pc := 36) C 41 dX1_keeps_36 (by decide) (fun c36 => ?_) (fun c36 => ?_)
      · skip
        refine k_iload_n (pc := 41) C dX1_keeps_41 rfl ?_
        refine k_if_neF (pc := 42) C 55 dX1_keeps_42 (by decide) (by decide) ?_
        refine k_aload_n (pc := 45) C dX1_keeps_45 rfl ?_
        refine k_dup (pc := 46) C dX1_keeps_46 rfl ?_
        refine k_getI (pc := 47) C fl_X1_65 (k_in1 hg hi) rfl rfl dX1_keeps_47 ?_
        refine k_iload_n (pc := 50) C dX1_keeps_50 rfl ?_
        refine k_iadd (pc := 51) C dX1_keeps_51 ?_
        refine k_putI (pc := 52) C pl_X1_65 (k_in1 hg hi) rfl rfl dX1_keeps_52 ?_
        refine k_aload_n (pc := 55) C dX1_keeps_55 rfl ?_
        refine k_dup (pc := 56) C dX1_keeps_56 rfl ?_
        refine k_getI (pc := 57) C fl_X1_68 (k_in1 hg hi) rfl rfl dX1_keeps_57 ?_
        refine k_iload_n (pc := 60) C dX1_keeps_60 rfl ?_
        refine k_iadd (pc := 61) C dX1_keeps_61 ?_
        refine k_putI (pc := 62) C pl_X1_68 (k_in1 hg hi) rfl rfl dX1_keeps_62 ?_
        refine k_iconst (pc := 65) (v := 1) C dX1_keeps_65 (by decide) ?_
        exact k_zret (pc := 66) C rfl (Or.inr rfl) (k_fIm (by unfold f_X1_keeps; rw [if_pos c5, if_pos c13, if_pos c36]; try rfl)) dX1_keeps_66
      · skip
        refine k_iconst (pc := 39) (v := 0) C dX1_keeps_39 (by decide) ?_
        exact k_zret (pc := 40) C rfl (Or.inl rfl) (k_fIm (by unfold f_X1_keeps; rw [if_pos c5, if_pos c13, if_neg c36]; try rfl)) dX1_keeps_40
    · skip
      refine k_iconst (pc := 16) (v := 1) C dX1_keeps_16 (by decide) ?_
      refine k_goto (pc := 17) C 21 dX1_keeps_17 (by decide) ?_
      refine k_istore_2 (pc := 21) C dX1_keeps_21 rfl ?_
      refine k_iload_n (pc := 22) C dX1_keeps_22 rfl ?_
      refine k_if_neT (pc := 23) C 41 dX1_keeps_23 (by decide) (by decide) ?_
      refine k_iload_n (pc := 41) C dX1_keeps_41 rfl ?_
      refine k_if_neT (pc := 42) C 55 dX1_keeps_42 (by decide) (by decide) ?_
      refine k_aload_n (pc := 55) C dX1_keeps_55 rfl ?_
      refine k_dup (pc := 56) C dX1_keeps_56 rfl ?_
      refine k_getI (pc := 57) C fl_X1_68 (k_in1 hg hi) rfl rfl dX1_keeps_57 ?_
      refine k_iload_n (pc := 60) C dX1_keeps_60 rfl ?_
      refine k_iadd (pc := 61) C dX1_keeps_61 ?_
      refine k_putI (pc := 62) C pl_X1_68 (k_in1 hg hi) rfl rfl dX1_keeps_62 ?_
      refine k_iconst (pc := 65) (v := 1) C dX1_keeps_65 (by decide) ?_
      exact k_zret (pc := 66) C rfl (Or.inr rfl) (k_fIm (by unfold f_X1_keeps; rw [if_pos c5, if_neg c13]; try rfl)) dX1_keeps_66
def f_X1_endMorning (mi : MemI) (g : Nat) (i : Nat) : MemI :=
  if (mi (1, g, i) 1) = 0 then mi
  else if (mi (1, g, i) 10) = 0 then (k_ui (k_ui mi (1, g, i) 7 (k_mx 0 ((mi (1, g, i) 7) - 2))) (1, g, i) 8 (k_mn 9 (((k_ui mi (1, g, i) 7 (k_mx 0 ((mi (1, g, i) 7) - 2))) (1, g, i) 8) + 1)))
    else (k_ui (k_ui mi (1, g, i) 7 (k_mn 99 ((mi (1, g, i) 7) + (mi (1, g, i) 13)))) (1, g, i) 8 0)
set_option maxRecDepth 100000 in
set_option maxHeartbeats 4000000 in
theorem ct_X1_endMorning {mi : MemI} {ml : MemL} {g : Nat} {i : Nat} (hg : g < 3) (hi : i < 6) : k_Ct k_KS k_R0 Mt_X1_endMorning 1 [vR (1, g, i)] mi ml (k_rt none (f_X1_endMorning mi g i) ml) := by
  refine k_ofV (L0 := [vR (1, g, i)]) (by decide +kernel) (Nat.le_of_ble_eq_true rfl) rfl rfl ?_
  intro p l e s m args below meth c D cy ad bs C
  refine k_aload_n (pc := 0) C dX1_endMorning_0 rfl ?_
  refine k_getI (pc := 1) C fl_X1_15 (k_in1 hg hi) rfl rfl dX1_endMorning_1 ?_
  refine k_if_ne (pc := 4) C 8 dX1_endMorning_4 (by decide) (fun c4 => ?_) (fun c4 => ?_)
  · skip
    refine k_aload_n (pc := 8) C dX1_endMorning_8 rfl ?_
    refine k_getI (pc := 9) C fl_X1_59 (k_in1 hg hi) rfl rfl dX1_endMorning_9 ?_
    refine k_if_ne (pc := 12) C 47 dX1_endMorning_12 (by decide) (fun c12 => ?_) (fun c12 => ?_)
    · skip
      refine k_aload_n (pc := 47) C dX1_endMorning_47 rfl ?_
      refine k_bipush (pc := 48) (v := 99) C dX1_endMorning_48 (by decide) ?_
      refine k_aload_n (pc := 50) C dX1_endMorning_50 rfl ?_
      refine k_getI (pc := 51) C fl_X1_34 (k_in1 hg hi) rfl rfl dX1_endMorning_51 ?_
      refine k_aload_n (pc := 54) C dX1_endMorning_54 rfl ?_
      refine k_getI (pc := 55) C fl_X1_68 (k_in1 hg hi) rfl rfl dX1_endMorning_55 ?_
      refine k_iadd (pc := 58) C dX1_endMorning_58 ?_
      refine k_mmin (pc := 59) C cm_X1_44 cm_min_s cm_i cm_min_c (by decide) rfl (Nat.le_of_ble_eq_true rfl) dX1_endMorning_59 ?_
      refine k_putI (pc := 62) C pl_X1_34 (k_in1 hg hi) rfl rfl dX1_endMorning_62 ?_
      refine k_aload_n (pc := 65) C dX1_endMorning_65 rfl ?_
      refine k_iconst (pc := 66) (v := 0) C dX1_endMorning_66 (by decide) ?_
      refine k_putI (pc := 67) C pl_X1_37 (k_in1 hg hi) rfl rfl dX1_endMorning_67 ?_
      exact k_vret (pc := 70) C rfl (k_fm (by unfold f_X1_endMorning; rw [if_neg c4, if_neg c12]; try rfl)) dX1_endMorning_70
    · skip
      refine k_aload_n (pc := 15) C dX1_endMorning_15 rfl ?_
      refine k_iconst (pc := 16) (v := 0) C dX1_endMorning_16 (by decide) ?_
      refine k_aload_n (pc := 17) C dX1_endMorning_17 rfl ?_
      refine k_getI (pc := 18) C fl_X1_34 (k_in1 hg hi) rfl rfl dX1_endMorning_18 ?_
      refine k_iconst (pc := 21) (v := 2) C dX1_endMorning_21 (by decide) ?_
      refine k_isub (pc := 22) C dX1_endMorning_22 ?_
      refine k_mmax (pc := 23) C cm_X1_50 cm_max_s cm_i cm_max_c (by decide) rfl (Nat.le_of_ble_eq_true rfl) dX1_endMorning_23 ?_
      refine k_putI (pc := 26) C pl_X1_34 (k_in1 hg hi) rfl rfl dX1_endMorning_26 ?_
      refine k_aload_n (pc := 29) C dX1_endMorning_29 rfl ?_
      refine k_bipush (pc := 30) (v := 9) C dX1_endMorning_30 (by decide) ?_
      refine k_aload_n (pc := 32) C dX1_endMorning_32 rfl ?_
      refine k_getI (pc := 33) C fl_X1_37 (k_in1 hg hi) rfl rfl dX1_endMorning_33 ?_
      refine k_iconst (pc := 36) (v := 1) C dX1_endMorning_36 (by decide) ?_
      refine k_iadd (pc := 37) C dX1_endMorning_37 ?_
      refine k_mmin (pc := 38) C cm_X1_44 cm_min_s cm_i cm_min_c (by decide) rfl (Nat.le_of_ble_eq_true rfl) dX1_endMorning_38 ?_
      refine k_putI (pc := 41) C pl_X1_37 (k_in1 hg hi) rfl rfl dX1_endMorning_41 ?_
      refine k_goto (pc := 44) C 70 dX1_endMorning_44 (by decide) ?_
      exact k_vret (pc := 70) C rfl (k_fm (by unfold f_X1_endMorning; rw [if_neg c4, if_pos c12]; try rfl)) dX1_endMorning_70
  · skip
    exact k_vret (pc := 7) C rfl (k_fm (by unfold f_X1_endMorning; rw [if_pos c4]; try rfl)) dX1_endMorning_7
def f_X1_share (mi : MemI) (g : Nat) (i : Nat) (cr : Int32) (n : Int32) : Int32 :=
  if cr ≤ 0 then 0
  else (k_mn n ((mi (1, g, i) 5) / cr))
set_option maxRecDepth 100000 in
set_option maxHeartbeats 4000000 in
theorem ct_X1_share {mi : MemI} {ml : MemL} {g : Nat} {i : Nat} {cr : Int32} {n : Int32} (hg : g < 3) (hi : i < 6) : k_Ct k_KS k_R0 Mt_X1_share 1 [vR (1, g, i), vI cr, vI n] mi ml (k_rt (some (vI (f_X1_share mi g i cr n))) mi ml) := by
  refine k_ofV (L0 := [vR (1, g, i), vI cr, vI n]) (by decide +kernel) (Nat.le_of_ble_eq_true rfl) rfl rfl ?_
  intro p l e s m args below meth c D cy ad bs C
  refine k_iload_n (pc := 0) C dX1_share_0 rfl ?_
  refine k_if_le (pc := 1) C 17 dX1_share_1 (by decide) (fun c1 => ?_) (fun c1 => ?_)
  · skip
    refine k_iconst (pc := 17) (v := 0) C dX1_share_17 (by decide) ?_
    exact k_iret (pc := 18) C rfl (k_fI (by unfold f_X1_share; rw [if_pos c1]; try rfl)) dX1_share_18
  · skip
    refine k_iload_n (pc := 4) C dX1_share_4 rfl ?_
    refine k_aload_n (pc := 5) C dX1_share_5 rfl ?_
    refine k_getI (pc := 6) C fl_X1_28 (k_in1 hg hi) rfl rfl dX1_share_6 ?_
    refine k_iload_n (pc := 9) C dX1_share_9 rfl ?_
    refine k_idiv (pc := 10) C dX1_share_10 (by first | assumption | exact k_ne0 (by assumption)) ?_
    refine k_mmin (pc := 11) C cm_X1_44 cm_min_s cm_i cm_min_c (by decide) rfl (Nat.le_of_ble_eq_true rfl) dX1_share_11 ?_
    refine k_goto (pc := 14) C 18 dX1_share_14 (by decide) ?_
    exact k_iret (pc := 18) C rfl (k_fI (by unfold f_X1_share; rw [if_neg c1]; try rfl)) dX1_share_18
def f_X1_arrive (mi : MemI) (g : Nat) (i : Nat) (k : Int32) (a : Int32) (ms : Int32) (h : Int32) : MemI :=
  (k_ui (k_ui (k_ui (k_ui (k_ui (k_ui (k_ui (k_ui mi (1, g, i) 1 1) (1, g, i) 2 0) (1, g, i) 3 k) (1, g, i) 4 a) (1, g, i) 5 ms) (1, g, i) 6 h) (1, g, i) 7 0) (1, g, i) 8 0)
set_option maxRecDepth 100000 in
set_option maxHeartbeats 4000000 in
theorem ct_X1_arrive {mi : MemI} {ml : MemL} {g : Nat} {i : Nat} {k : Int32} {a : Int32} {ms : Int32} {h : Int32} (hg : g < 3) (hi : i < 6) : k_Ct k_KS k_R0 Mt_X1_arrive 0 [vR (1, g, i), vI k, vI a, vI ms, vI h] mi ml (k_rt none (f_X1_arrive mi g i k a ms h) ml) := by
  refine k_ofV (L0 := [vR (1, g, i), vI k, vI a, vI ms, vI h]) (by decide +kernel) (Nat.le_of_ble_eq_true rfl) rfl rfl ?_
  intro p l e s m args below meth c D cy ad bs C
  refine k_aload_n (pc := 0) C dX1_arrive_0 rfl ?_
  refine k_iconst (pc := 1) (v := 1) C dX1_arrive_1 (by decide) ?_
  refine k_putZ (pc := 2) C (Or.inr rfl) pl_X1_15 (k_in1 hg hi) rfl rfl dX1_arrive_2 ?_
  refine k_aload_n (pc := 5) C dX1_arrive_5 rfl ?_
  refine k_iconst (pc := 6) (v := 0) C dX1_arrive_6 (by decide) ?_
  refine k_putZ (pc := 7) C (Or.inl rfl) pl_X1_19 (k_in1 hg hi) rfl rfl dX1_arrive_7 ?_
  refine k_aload_n (pc := 10) C dX1_arrive_10 rfl ?_
  refine k_iload_n (pc := 11) C dX1_arrive_11 rfl ?_
  refine k_putI (pc := 12) C pl_X1_22 (k_in1 hg hi) rfl rfl dX1_arrive_12 ?_
  refine k_aload_n (pc := 15) C dX1_arrive_15 rfl ?_
  refine k_iload_n (pc := 16) C dX1_arrive_16 rfl ?_
  refine k_putI (pc := 17) C pl_X1_25 (k_in1 hg hi) rfl rfl dX1_arrive_17 ?_
  refine k_aload_n (pc := 20) C dX1_arrive_20 rfl ?_
  refine k_iload_n (pc := 21) C dX1_arrive_21 rfl ?_
  refine k_putI (pc := 22) C pl_X1_28 (k_in1 hg hi) rfl rfl dX1_arrive_22 ?_
  refine k_aload_n (pc := 25) C dX1_arrive_25 rfl ?_
  refine k_iload (pc := 26) C dX1_arrive_26 rfl ?_
  refine k_putI (pc := 28) C pl_X1_31 (k_in1 hg hi) rfl rfl dX1_arrive_28 ?_
  refine k_aload_n (pc := 31) C dX1_arrive_31 rfl ?_
  refine k_iconst (pc := 32) (v := 0) C dX1_arrive_32 (by decide) ?_
  refine k_putI (pc := 33) C pl_X1_34 (k_in1 hg hi) rfl rfl dX1_arrive_33 ?_
  refine k_aload_n (pc := 36) C dX1_arrive_36 rfl ?_
  refine k_iconst (pc := 37) (v := 0) C dX1_arrive_37 (by decide) ?_
  refine k_putI (pc := 38) C pl_X1_37 (k_in1 hg hi) rfl rfl dX1_arrive_38 ?_
  exact k_vret (pc := 41) C rfl (k_fm rfl) dX1_arrive_41
def f_X1_become (mi : MemI) (g : Nat) (i : Nat) (g2 : Nat) (i2 : Nat) : MemI :=
  (k_ui (k_ui (k_ui (k_ui (k_ui (k_ui (k_ui (k_ui mi (1, g, i) 1 (mi (1, g2, i2) 1)) (1, g, i) 2 ((k_ui mi (1, g, i) 1 (mi (1, g2, i2) 1)) (1, g2, i2) 2)) (1, g, i) 3 ((k_ui (k_ui mi (1, g, i) 1 (mi (1, g2, i2) 1)) (1, g, i) 2 ((k_ui mi (1, g, i) 1 (mi (1, g2, i2) 1)) (1, g2, i2) 2)) (1, g2, i2) 3)) (1, g, i) 4 ((k_ui (k_ui (k_ui mi (1, g, i) 1 (mi (1, g2, i2) 1)) (1, g, i) 2 ((k_ui mi (1, g, i) 1 (mi (1, g2, i2) 1)) (1, g2, i2) 2)) (1, g, i) 3 ((k_ui (k_ui mi (1, g, i) 1 (mi (1, g2, i2) 1)) (1, g, i) 2 ((k_ui mi (1, g, i) 1 (mi (1, g2, i2) 1)) (1, g2, i2) 2)) (1, g2, i2) 3)) (1, g2, i2) 4)) (1, g, i) 5 ((k_ui (k_ui (k_ui (k_ui mi (1, g, i) 1 (mi (1, g2, i2) 1)) (1, g, i) 2 ((k_ui mi (1, g, i) 1 (mi (1, g2, i2) 1)) (1, g2, i2) 2)) (1, g, i) 3 ((k_ui (k_ui mi (1, g, i) 1 (mi (1, g2, i2) 1)) (1, g, i) 2 ((k_ui mi (1, g, i) 1 (mi (1, g2, i2) 1)) (1, g2, i2) 2)) (1, g2, i2) 3)) (1, g, i) 4 ((k_ui (k_ui (k_ui mi (1, g, i) 1 (mi (1, g2, i2) 1)) (1, g, i) 2 ((k_ui mi (1, g, i) 1 (mi (1, g2, i2) 1)) (1, g2, i2) 2)) (1, g, i) 3 ((k_ui (k_ui mi (1, g, i) 1 (mi (1, g2, i2) 1)) (1, g, i) 2 ((k_ui mi (1, g, i) 1 (mi (1, g2, i2) 1)) (1, g2, i2) 2)) (1, g2, i2) 3)) (1, g2, i2) 4)) (1, g2, i2) 5)) (1, g, i) 6 ((k_ui (k_ui (k_ui (k_ui (k_ui mi (1, g, i) 1 (mi (1, g2, i2) 1)) (1, g, i) 2 ((k_ui mi (1, g, i) 1 (mi (1, g2, i2) 1)) (1, g2, i2) 2)) (1, g, i) 3 ((k_ui (k_ui mi (1, g, i) 1 (mi (1, g2, i2) 1)) (1, g, i) 2 ((k_ui mi (1, g, i) 1 (mi (1, g2, i2) 1)) (1, g2, i2) 2)) (1, g2, i2) 3)) (1, g, i) 4 ((k_ui (k_ui (k_ui mi (1, g, i) 1 (mi (1, g2, i2) 1)) (1, g, i) 2 ((k_ui mi (1, g, i) 1 (mi (1, g2, i2) 1)) (1, g2, i2) 2)) (1, g, i) 3 ((k_ui (k_ui mi (1, g, i) 1 (mi (1, g2, i2) 1)) (1, g, i) 2 ((k_ui mi (1, g, i) 1 (mi (1, g2, i2) 1)) (1, g2, i2) 2)) (1, g2, i2) 3)) (1, g2, i2) 4)) (1, g, i) 5 ((k_ui (k_ui (k_ui (k_ui mi (1, g, i) 1 (mi (1, g2, i2) 1)) (1, g, i) 2 ((k_ui mi (1, g, i) 1 (mi (1, g2, i2) 1)) (1, g2, i2) 2)) (1, g, i) 3 ((k_ui (k_ui mi (1, g, i) 1 (mi (1, g2, i2) 1)) (1, g, i) 2 ((k_ui mi (1, g, i) 1 (mi (1, g2, i2) 1)) (1, g2, i2) 2)) (1, g2, i2) 3)) (1, g, i) 4 ((k_ui (k_ui (k_ui mi (1, g, i) 1 (mi (1, g2, i2) 1)) (1, g, i) 2 ((k_ui mi (1, g, i) 1 (mi (1, g2, i2) 1)) (1, g2, i2) 2)) (1, g, i) 3 ((k_ui (k_ui mi (1, g, i) 1 (mi (1, g2, i2) 1)) (1, g, i) 2 ((k_ui mi (1, g, i) 1 (mi (1, g2, i2) 1)) (1, g2, i2) 2)) (1, g2, i2) 3)) (1, g2, i2) 4)) (1, g2, i2) 5)) (1, g2, i2) 6)) (1, g, i) 7 ((k_ui (k_ui (k_ui (k_ui (k_ui (k_ui mi (1, g, i) 1 (mi (1, g2, i2) 1)) (1, g, i) 2 ((k_ui mi (1, g, i) 1 (mi (1, g2, i2) 1)) (1, g2, i2) 2)) (1, g, i) 3 ((k_ui (k_ui mi (1, g, i) 1 (mi (1, g2, i2) 1)) (1, g, i) 2 ((k_ui mi (1, g, i) 1 (mi (1, g2, i2) 1)) (1, g2, i2) 2)) (1, g2, i2) 3)) (1, g, i) 4 ((k_ui (k_ui (k_ui mi (1, g, i) 1 (mi (1, g2, i2) 1)) (1, g, i) 2 ((k_ui mi (1, g, i) 1 (mi (1, g2, i2) 1)) (1, g2, i2) 2)) (1, g, i) 3 ((k_ui (k_ui mi (1, g, i) 1 (mi (1, g2, i2) 1)) (1, g, i) 2 ((k_ui mi (1, g, i) 1 (mi (1, g2, i2) 1)) (1, g2, i2) 2)) (1, g2, i2) 3)) (1, g2, i2) 4)) (1, g, i) 5 ((k_ui (k_ui (k_ui (k_ui mi (1, g, i) 1 (mi (1, g2, i2) 1)) (1, g, i) 2 ((k_ui mi (1, g, i) 1 (mi (1, g2, i2) 1)) (1, g2, i2) 2)) (1, g, i) 3 ((k_ui (k_ui mi (1, g, i) 1 (mi (1, g2, i2) 1)) (1, g, i) 2 ((k_ui mi (1, g, i) 1 (mi (1, g2, i2) 1)) (1, g2, i2) 2)) (1, g2, i2) 3)) (1, g, i) 4 ((k_ui (k_ui (k_ui mi (1, g, i) 1 (mi (1, g2, i2) 1)) (1, g, i) 2 ((k_ui mi (1, g, i) 1 (mi (1, g2, i2) 1)) (1, g2, i2) 2)) (1, g, i) 3 ((k_ui (k_ui mi (1, g, i) 1 (mi (1, g2, i2) 1)) (1, g, i) 2 ((k_ui mi (1, g, i) 1 (mi (1, g2, i2) 1)) (1, g2, i2) 2)) (1, g2, i2) 3)) (1, g2, i2) 4)) (1, g2, i2) 5)) (1, g, i) 6 ((k_ui (k_ui (k_ui (k_ui (k_ui mi (1, g, i) 1 (mi (1, g2, i2) 1)) (1, g, i) 2 ((k_ui mi (1, g, i) 1 (mi (1, g2, i2) 1)) (1, g2, i2) 2)) (1, g, i) 3 ((k_ui (k_ui mi (1, g, i) 1 (mi (1, g2, i2) 1)) (1, g, i) 2 ((k_ui mi (1, g, i) 1 (mi (1, g2, i2) 1)) (1, g2, i2) 2)) (1, g2, i2) 3)) (1, g, i) 4 ((k_ui (k_ui (k_ui mi (1, g, i) 1 (mi (1, g2, i2) 1)) (1, g, i) 2 ((k_ui mi (1, g, i) 1 (mi (1, g2, i2) 1)) (1, g2, i2) 2)) (1, g, i) 3 ((k_ui (k_ui mi (1, g, i) 1 (mi (1, g2, i2) 1)) (1, g, i) 2 ((k_ui mi (1, g, i) 1 (mi (1, g2, i2) 1)) (1, g2, i2) 2)) (1, g2, i2) 3)) (1, g2, i2) 4)) (1, g, i) 5 ((k_ui (k_ui (k_ui (k_ui mi (1, g, i) 1 (mi (1, g2, i2) 1)) (1, g, i) 2 ((k_ui mi (1, g, i) 1 (mi (1, g2, i2) 1)) (1, g2, i2) 2)) (1, g, i) 3 ((k_ui (k_ui mi (1, g, i) 1 (mi (1, g2, i2) 1)) (1, g, i) 2 ((k_ui mi (1, g, i) 1 (mi (1, g2, i2) 1)) (1, g2, i2) 2)) (1, g2, i2) 3)) (1, g, i) 4 ((k_ui (k_ui (k_ui mi (1, g, i) 1 (mi (1, g2, i2) 1)) (1, g, i) 2 ((k_ui mi (1, g, i) 1 (mi (1, g2, i2) 1)) (1, g2, i2) 2)) (1, g, i) 3 ((k_ui (k_ui mi (1, g, i) 1 (mi (1, g2, i2) 1)) (1, g, i) 2 ((k_ui mi (1, g, i) 1 (mi (1, g2, i2) 1)) (1, g2, i2) 2)) (1, g2, i2) 3)) (1, g2, i2) 4)) (1, g2, i2) 5)) (1, g2, i2) 6)) (1, g2, i2) 7)) (1, g, i) 8 ((k_ui (k_ui (k_ui (k_ui (k_ui (k_ui (k_ui mi (1, g, i) 1 (mi (1, g2, i2) 1)) (1, g, i) 2 ((k_ui mi (1, g, i) 1 (mi (1, g2, i2) 1)) (1, g2, i2) 2)) (1, g, i) 3 ((k_ui (k_ui mi (1, g, i) 1 (mi (1, g2, i2) 1)) (1, g, i) 2 ((k_ui mi (1, g, i) 1 (mi (1, g2, i2) 1)) (1, g2, i2) 2)) (1, g2, i2) 3)) (1, g, i) 4 ((k_ui (k_ui (k_ui mi (1, g, i) 1 (mi (1, g2, i2) 1)) (1, g, i) 2 ((k_ui mi (1, g, i) 1 (mi (1, g2, i2) 1)) (1, g2, i2) 2)) (1, g, i) 3 ((k_ui (k_ui mi (1, g, i) 1 (mi (1, g2, i2) 1)) (1, g, i) 2 ((k_ui mi (1, g, i) 1 (mi (1, g2, i2) 1)) (1, g2, i2) 2)) (1, g2, i2) 3)) (1, g2, i2) 4)) (1, g, i) 5 ((k_ui (k_ui (k_ui (k_ui mi (1, g, i) 1 (mi (1, g2, i2) 1)) (1, g, i) 2 ((k_ui mi (1, g, i) 1 (mi (1, g2, i2) 1)) (1, g2, i2) 2)) (1, g, i) 3 ((k_ui (k_ui mi (1, g, i) 1 (mi (1, g2, i2) 1)) (1, g, i) 2 ((k_ui mi (1, g, i) 1 (mi (1, g2, i2) 1)) (1, g2, i2) 2)) (1, g2, i2) 3)) (1, g, i) 4 ((k_ui (k_ui (k_ui mi (1, g, i) 1 (mi (1, g2, i2) 1)) (1, g, i) 2 ((k_ui mi (1, g, i) 1 (mi (1, g2, i2) 1)) (1, g2, i2) 2)) (1, g, i) 3 ((k_ui (k_ui mi (1, g, i) 1 (mi (1, g2, i2) 1)) (1, g, i) 2 ((k_ui mi (1, g, i) 1 (mi (1, g2, i2) 1)) (1, g2, i2) 2)) (1, g2, i2) 3)) (1, g2, i2) 4)) (1, g2, i2) 5)) (1, g, i) 6 ((k_ui (k_ui (k_ui (k_ui (k_ui mi (1, g, i) 1 (mi (1, g2, i2) 1)) (1, g, i) 2 ((k_ui mi (1, g, i) 1 (mi (1, g2, i2) 1)) (1, g2, i2) 2)) (1, g, i) 3 ((k_ui (k_ui mi (1, g, i) 1 (mi (1, g2, i2) 1)) (1, g, i) 2 ((k_ui mi (1, g, i) 1 (mi (1, g2, i2) 1)) (1, g2, i2) 2)) (1, g2, i2) 3)) (1, g, i) 4 ((k_ui (k_ui (k_ui mi (1, g, i) 1 (mi (1, g2, i2) 1)) (1, g, i) 2 ((k_ui mi (1, g, i) 1 (mi (1, g2, i2) 1)) (1, g2, i2) 2)) (1, g, i) 3 ((k_ui (k_ui mi (1, g, i) 1 (mi (1, g2, i2) 1)) (1, g, i) 2 ((k_ui mi (1, g, i) 1 (mi (1, g2, i2) 1)) (1, g2, i2) 2)) (1, g2, i2) 3)) (1, g2, i2) 4)) (1, g, i) 5 ((k_ui (k_ui (k_ui (k_ui mi (1, g, i) 1 (mi (1, g2, i2) 1)) (1, g, i) 2 ((k_ui mi (1, g, i) 1 (mi (1, g2, i2) 1)) (1, g2, i2) 2)) (1, g, i) 3 ((k_ui (k_ui mi (1, g, i) 1 (mi (1, g2, i2) 1)) (1, g, i) 2 ((k_ui mi (1, g, i) 1 (mi (1, g2, i2) 1)) (1, g2, i2) 2)) (1, g2, i2) 3)) (1, g, i) 4 ((k_ui (k_ui (k_ui mi (1, g, i) 1 (mi (1, g2, i2) 1)) (1, g, i) 2 ((k_ui mi (1, g, i) 1 (mi (1, g2, i2) 1)) (1, g2, i2) 2)) (1, g, i) 3 ((k_ui (k_ui mi (1, g, i) 1 (mi (1, g2, i2) 1)) (1, g, i) 2 ((k_ui mi (1, g, i) 1 (mi (1, g2, i2) 1)) (1, g2, i2) 2)) (1, g2, i2) 3)) (1, g2, i2) 4)) (1, g2, i2) 5)) (1, g2, i2) 6)) (1, g, i) 7 ((k_ui (k_ui (k_ui (k_ui (k_ui (k_ui mi (1, g, i) 1 (mi (1, g2, i2) 1)) (1, g, i) 2 ((k_ui mi (1, g, i) 1 (mi (1, g2, i2) 1)) (1, g2, i2) 2)) (1, g, i) 3 ((k_ui (k_ui mi (1, g, i) 1 (mi (1, g2, i2) 1)) (1, g, i) 2 ((k_ui mi (1, g, i) 1 (mi (1, g2, i2) 1)) (1, g2, i2) 2)) (1, g2, i2) 3)) (1, g, i) 4 ((k_ui (k_ui (k_ui mi (1, g, i) 1 (mi (1, g2, i2) 1)) (1, g, i) 2 ((k_ui mi (1, g, i) 1 (mi (1, g2, i2) 1)) (1, g2, i2) 2)) (1, g, i) 3 ((k_ui (k_ui mi (1, g, i) 1 (mi (1, g2, i2) 1)) (1, g, i) 2 ((k_ui mi (1, g, i) 1 (mi (1, g2, i2) 1)) (1, g2, i2) 2)) (1, g2, i2) 3)) (1, g2, i2) 4)) (1, g, i) 5 ((k_ui (k_ui (k_ui (k_ui mi (1, g, i) 1 (mi (1, g2, i2) 1)) (1, g, i) 2 ((k_ui mi (1, g, i) 1 (mi (1, g2, i2) 1)) (1, g2, i2) 2)) (1, g, i) 3 ((k_ui (k_ui mi (1, g, i) 1 (mi (1, g2, i2) 1)) (1, g, i) 2 ((k_ui mi (1, g, i) 1 (mi (1, g2, i2) 1)) (1, g2, i2) 2)) (1, g2, i2) 3)) (1, g, i) 4 ((k_ui (k_ui (k_ui mi (1, g, i) 1 (mi (1, g2, i2) 1)) (1, g, i) 2 ((k_ui mi (1, g, i) 1 (mi (1, g2, i2) 1)) (1, g2, i2) 2)) (1, g, i) 3 ((k_ui (k_ui mi (1, g, i) 1 (mi (1, g2, i2) 1)) (1, g, i) 2 ((k_ui mi (1, g, i) 1 (mi (1, g2, i2) 1)) (1, g2, i2) 2)) (1, g2, i2) 3)) (1, g2, i2) 4)) (1, g2, i2) 5)) (1, g, i) 6 ((k_ui (k_ui (k_ui (k_ui (k_ui mi (1, g, i) 1 (mi (1, g2, i2) 1)) (1, g, i) 2 ((k_ui mi (1, g, i) 1 (mi (1, g2, i2) 1)) (1, g2, i2) 2)) (1, g, i) 3 ((k_ui (k_ui mi (1, g, i) 1 (mi (1, g2, i2) 1)) (1, g, i) 2 ((k_ui mi (1, g, i) 1 (mi (1, g2, i2) 1)) (1, g2, i2) 2)) (1, g2, i2) 3)) (1, g, i) 4 ((k_ui (k_ui (k_ui mi (1, g, i) 1 (mi (1, g2, i2) 1)) (1, g, i) 2 ((k_ui mi (1, g, i) 1 (mi (1, g2, i2) 1)) (1, g2, i2) 2)) (1, g, i) 3 ((k_ui (k_ui mi (1, g, i) 1 (mi (1, g2, i2) 1)) (1, g, i) 2 ((k_ui mi (1, g, i) 1 (mi (1, g2, i2) 1)) (1, g2, i2) 2)) (1, g2, i2) 3)) (1, g2, i2) 4)) (1, g, i) 5 ((k_ui (k_ui (k_ui (k_ui mi (1, g, i) 1 (mi (1, g2, i2) 1)) (1, g, i) 2 ((k_ui mi (1, g, i) 1 (mi (1, g2, i2) 1)) (1, g2, i2) 2)) (1, g, i) 3 ((k_ui (k_ui mi (1, g, i) 1 (mi (1, g2, i2) 1)) (1, g, i) 2 ((k_ui mi (1, g, i) 1 (mi (1, g2, i2) 1)) (1, g2, i2) 2)) (1, g2, i2) 3)) (1, g, i) 4 ((k_ui (k_ui (k_ui mi (1, g, i) 1 (mi (1, g2, i2) 1)) (1, g, i) 2 ((k_ui mi (1, g, i) 1 (mi (1, g2, i2) 1)) (1, g2, i2) 2)) (1, g, i) 3 ((k_ui (k_ui mi (1, g, i) 1 (mi (1, g2, i2) 1)) (1, g, i) 2 ((k_ui mi (1, g, i) 1 (mi (1, g2, i2) 1)) (1, g2, i2) 2)) (1, g2, i2) 3)) (1, g2, i2) 4)) (1, g2, i2) 5)) (1, g2, i2) 6)) (1, g2, i2) 7)) (1, g2, i2) 8))
set_option maxRecDepth 100000 in
set_option maxHeartbeats 4000000 in
theorem ct_X1_become {mi : MemI} {ml : MemL} {g : Nat} {i : Nat} {g2 : Nat} {i2 : Nat} (hg : g < 3) (hi : i < 6) (hg2 : g2 < 3) (hi2 : i2 < 6) (hz1 : mi (1, g2, i2) 1 = 0 ∨ mi (1, g2, i2) 1 = 1) (hz2 : k_ui mi (1, g, i) 1 (mi (1, g2, i2) 1) (1, g2, i2) 2 = 0 ∨ k_ui mi (1, g, i) 1 (mi (1, g2, i2) 1) (1, g2, i2) 2 = 1) : k_Ct k_KS k_R0 Mt_X1_become 0 [vR (1, g, i), vR (1, g2, i2)] mi ml (k_rt none (f_X1_become mi g i g2 i2) ml) := by
  refine k_ofV (L0 := [vR (1, g, i), vR (1, g2, i2)]) (by decide +kernel) (Nat.le_of_ble_eq_true rfl) rfl rfl ?_
  intro p l e s m args below meth c D cy ad bs C
  refine k_aload_n (pc := 0) C dX1_become_0 rfl ?_
  refine k_aload_n (pc := 1) C dX1_become_1 rfl ?_
  refine k_getI (pc := 2) C fl_X1_15 (k_in1 hg2 hi2) rfl rfl dX1_become_2 ?_
  refine k_putZ (pc := 5) C (by assumption) pl_X1_15 (k_in1 hg hi) rfl rfl dX1_become_5 ?_
  refine k_aload_n (pc := 8) C dX1_become_8 rfl ?_
  refine k_aload_n (pc := 9) C dX1_become_9 rfl ?_
  refine k_getI (pc := 10) C fl_X1_19 (k_in1 hg2 hi2) rfl rfl dX1_become_10 ?_
  refine k_putZ (pc := 13) C (by assumption) pl_X1_19 (k_in1 hg hi) rfl rfl dX1_become_13 ?_
  refine k_aload_n (pc := 16) C dX1_become_16 rfl ?_
  refine k_aload_n (pc := 17) C dX1_become_17 rfl ?_
  refine k_getI (pc := 18) C fl_X1_22 (k_in1 hg2 hi2) rfl rfl dX1_become_18 ?_
  refine k_putI (pc := 21) C pl_X1_22 (k_in1 hg hi) rfl rfl dX1_become_21 ?_
  refine k_aload_n (pc := 24) C dX1_become_24 rfl ?_
  refine k_aload_n (pc := 25) C dX1_become_25 rfl ?_
  refine k_getI (pc := 26) C fl_X1_25 (k_in1 hg2 hi2) rfl rfl dX1_become_26 ?_
  refine k_putI (pc := 29) C pl_X1_25 (k_in1 hg hi) rfl rfl dX1_become_29 ?_
  refine k_aload_n (pc := 32) C dX1_become_32 rfl ?_
  refine k_aload_n (pc := 33) C dX1_become_33 rfl ?_
  refine k_getI (pc := 34) C fl_X1_28 (k_in1 hg2 hi2) rfl rfl dX1_become_34 ?_
  refine k_putI (pc := 37) C pl_X1_28 (k_in1 hg hi) rfl rfl dX1_become_37 ?_
  refine k_aload_n (pc := 40) C dX1_become_40 rfl ?_
  refine k_aload_n (pc := 41) C dX1_become_41 rfl ?_
  refine k_getI (pc := 42) C fl_X1_31 (k_in1 hg2 hi2) rfl rfl dX1_become_42 ?_
  refine k_putI (pc := 45) C pl_X1_31 (k_in1 hg hi) rfl rfl dX1_become_45 ?_
  refine k_aload_n (pc := 48) C dX1_become_48 rfl ?_
  refine k_aload_n (pc := 49) C dX1_become_49 rfl ?_
  refine k_getI (pc := 50) C fl_X1_34 (k_in1 hg2 hi2) rfl rfl dX1_become_50 ?_
  refine k_putI (pc := 53) C pl_X1_34 (k_in1 hg hi) rfl rfl dX1_become_53 ?_
  refine k_aload_n (pc := 56) C dX1_become_56 rfl ?_
  refine k_aload_n (pc := 57) C dX1_become_57 rfl ?_
  refine k_getI (pc := 58) C fl_X1_37 (k_in1 hg2 hi2) rfl rfl dX1_become_58 ?_
  refine k_putI (pc := 61) C pl_X1_37 (k_in1 hg hi) rfl rfl dX1_become_61 ?_
  exact k_vret (pc := 64) C rfl (k_fm rfl) dX1_become_64
def f_X0_comes (mi : MemI) (g : Nat) (i : Nat) : Int32 :=
  if (mi (0, g, i) 1) = 0 then 0
  else if (mi (0, g, i) 2) = 0 then 1
    else 0
theorem z_X0_comes {mi : MemI} {g : Nat} {i : Nat}  : (f_X0_comes mi g i) = 0 ∨ (f_X0_comes mi g i) = 1 := by
  unfold f_X0_comes
  by_cases zh1 : (mi (0, g, i) 1) = 0
  · rw [if_pos zh1]
    exact (Or.inl rfl)
  · rw [if_neg zh1]
    by_cases zh2 : (mi (0, g, i) 2) = 0
    · rw [if_pos zh2]
      exact (Or.inr rfl)
    · rw [if_neg zh2]
      exact (Or.inl rfl)
set_option maxRecDepth 100000 in
set_option maxHeartbeats 4000000 in
theorem ct_X0_comes {mi : MemI} {ml : MemL} {g : Nat} {i : Nat} (hg : g < 3) (hi : i < 6) : k_Ct k_KS k_R0 Mt_X0_comes 0 [vR (0, g, i)] mi ml (k_rt (some (vI (f_X0_comes mi g i))) mi ml) := by
  refine k_ofV (L0 := [vR (0, g, i)]) (by decide +kernel) (Nat.le_of_ble_eq_true rfl) rfl rfl ?_
  intro p l e s m args below meth c D cy ad bs C
  refine k_aload_n (pc := 0) C dX0_comes_0 rfl ?_
  refine k_getI (pc := 1) C fl_X0_30 (k_in0 hg hi) rfl rfl dX0_comes_1 ?_
  refine k_if_eq (pc := 4) C 18 dX0_comes_4 (by decide) (fun c4 => ?_) (fun c4 => ?_)
  · skip
    refine k_iconst (pc := 18) (v := 0) C dX0_comes_18 (by decide) ?_
    exact k_zret (pc := 19) C rfl (Or.inl rfl) (k_fI (by unfold f_X0_comes; rw [if_pos c4]; try rfl)) dX0_comes_19
  · skip
    refine k_aload_n (pc := 7) C dX0_comes_7 rfl ?_
    refine k_getI (pc := 8) C fl_X0_34 (k_in0 hg hi) rfl rfl dX0_comes_8 ?_
    refine k_if_ne (pc := 11) C 18 dX0_comes_11 (by decide) (fun c11 => ?_) (fun c11 => ?_)
    · skip
      refine k_iconst (pc := 18) (v := 0) C dX0_comes_18 (by decide) ?_
      exact k_zret (pc := 19) C rfl (Or.inl rfl) (k_fI (by unfold f_X0_comes; rw [if_neg c4, if_neg c11]; try rfl)) dX0_comes_19
    · skip
      refine k_iconst (pc := 14) (v := 1) C dX0_comes_14 (by decide) ?_
      refine k_goto (pc := 15) C 19 dX0_comes_15 (by decide) ?_
      exact k_zret (pc := 19) C rfl (Or.inr rfl) (k_fI (by unfold f_X0_comes; rw [if_neg c4, if_pos c11]; try rfl)) dX0_comes_19
def f_X0_arrive (mi : MemI) (g : Nat) (i : Nat) (n : Int32) (r : Int32) : MemI :=
  (k_ui (k_ui (k_ui (k_ui (k_ui (k_ui mi (0, g, i) 1 1) (0, g, i) 2 0) (0, g, i) 3 n) (0, g, i) 4 r) (0, g, i) 5 (-1)) (0, g, i) 6 0)
set_option maxRecDepth 100000 in
set_option maxHeartbeats 4000000 in
theorem ct_X0_arrive {mi : MemI} {ml : MemL} {g : Nat} {i : Nat} {n : Int32} {r : Int32} (hg : g < 3) (hi : i < 6) : k_Ct k_KS k_R0 Mt_X0_arrive 0 [vR (0, g, i), vI n, vI r] mi ml (k_rt none (f_X0_arrive mi g i n r) ml) := by
  refine k_ofV (L0 := [vR (0, g, i), vI n, vI r]) (by decide +kernel) (Nat.le_of_ble_eq_true rfl) rfl rfl ?_
  intro p l e s m args below meth c D cy ad bs C
  refine k_aload_n (pc := 0) C dX0_arrive_0 rfl ?_
  refine k_iconst (pc := 1) (v := 1) C dX0_arrive_1 (by decide) ?_
  refine k_putZ (pc := 2) C (Or.inr rfl) pl_X0_30 (k_in0 hg hi) rfl rfl dX0_arrive_2 ?_
  refine k_aload_n (pc := 5) C dX0_arrive_5 rfl ?_
  refine k_iconst (pc := 6) (v := 0) C dX0_arrive_6 (by decide) ?_
  refine k_putZ (pc := 7) C (Or.inl rfl) pl_X0_34 (k_in0 hg hi) rfl rfl dX0_arrive_7 ?_
  refine k_aload_n (pc := 10) C dX0_arrive_10 rfl ?_
  refine k_iload_n (pc := 11) C dX0_arrive_11 rfl ?_
  refine k_putI (pc := 12) C pl_X0_37 (k_in0 hg hi) rfl rfl dX0_arrive_12 ?_
  refine k_aload_n (pc := 15) C dX0_arrive_15 rfl ?_
  refine k_iload_n (pc := 16) C dX0_arrive_16 rfl ?_
  refine k_putI (pc := 17) C pl_X0_40 (k_in0 hg hi) rfl rfl dX0_arrive_17 ?_
  refine k_aload_n (pc := 20) C dX0_arrive_20 rfl ?_
  refine k_iconst (pc := 21) (v := (-1)) C dX0_arrive_21 (by decide) ?_
  refine k_putI (pc := 22) C pl_X0_9 (k_in0 hg hi) rfl rfl dX0_arrive_22 ?_
  refine k_aload_n (pc := 25) C dX0_arrive_25 rfl ?_
  refine k_iconst (pc := 26) (v := 0) C dX0_arrive_26 (by decide) ?_
  refine k_putI (pc := 27) C pl_X0_43 (k_in0 hg hi) rfl rfl dX0_arrive_27 ?_
  exact k_vret (pc := 30) C rfl (k_fm rfl) dX0_arrive_30
def f_X0_endMorning (mi : MemI) (g : Nat) (i : Nat) : MemI :=
  if (f_X0_comes mi g i) = 0 then mi
  else if (mi (0, g, i) 7) = (-1) then if (mi (0, g, i) 8) = 0 then (k_ui mi (0, g, i) 6 (k_mn 99 ((mi (0, g, i) 6) + 1)))
      else (k_ui mi (0, g, i) 6 0)
    else if ((k_ui mi (0, g, i) 5 (mi (0, g, i) 7)) (0, g, i) 8) = 0 then (k_ui (k_ui mi (0, g, i) 5 (mi (0, g, i) 7)) (0, g, i) 6 (k_mn 99 (((k_ui mi (0, g, i) 5 (mi (0, g, i) 7)) (0, g, i) 6) + 1)))
      else (k_ui (k_ui mi (0, g, i) 5 (mi (0, g, i) 7)) (0, g, i) 6 0)
set_option maxRecDepth 100000 in
set_option maxHeartbeats 4000000 in
theorem ct_X0_endMorning {mi : MemI} {ml : MemL} {g : Nat} {i : Nat} (hg : g < 3) (hi : i < 6) : k_Ct k_KS k_R0 Mt_X0_endMorning 1 [vR (0, g, i)] mi ml (k_rt none (f_X0_endMorning mi g i) ml) := by
  refine k_ofV (L0 := [vR (0, g, i)]) (by decide +kernel) (Nat.le_of_ble_eq_true rfl) rfl rfl ?_
  intro p l e s m args below meth c D cy ad bs C
  refine k_aload_n (pc := 0) C dX0_endMorning_0 rfl ?_
  refine k_call0 (pc := 1) C cv_X0_46 (ct_X0_comes hg hi) (k_in0 hg hi) rfl (by decide) rfl (Nat.le_of_ble_eq_true rfl) dX0_endMorning_1 ?_
  refine k_if_ne (pc := 4) C 8 dX0_endMorning_4 (by decide) (fun c4 => ?_) (fun c4 => ?_)
  · skip
    refine k_aload_n (pc := 8) C dX0_endMorning_8 rfl ?_
    refine k_getI (pc := 9) C fl_X0_15 (k_in0 hg hi) rfl rfl dX0_endMorning_9 ?_
    refine k_iconst (pc := 12) (v := (-1)) C dX0_endMorning_12 (by decide) ?_
    refine k_icmp_eq (pc := 13) C 24 dX0_endMorning_13 (by decide) (fun c13 => ?_) (fun c13 => ?_)
    · skip
      refine k_aload_n (pc := 24) C dX0_endMorning_24 rfl ?_
      refine k_aload_n (pc := 25) C dX0_endMorning_25 rfl ?_
      refine k_getI (pc := 26) C fl_X0_50 (k_in0 hg hi) rfl rfl dX0_endMorning_26 ?_
      refine k_if_eq (pc := 29) C 36 dX0_endMorning_29 (by decide) (fun c29 => ?_) (fun c29 => ?_)
      · skip
        refine k_bipush (pc := 36) (v := 99) C dX0_endMorning_36 (by decide) ?_
        refine k_aload_n (pc := 38) C dX0_endMorning_38 rfl ?_
        refine k_getI (pc := 39) C fl_X0_43 (k_in0 hg hi) rfl rfl dX0_endMorning_39 ?_
        refine k_iconst (pc := 42) (v := 1) C dX0_endMorning_42 (by decide) ?_
        refine k_iadd (pc := 43) C dX0_endMorning_43 ?_
        refine k_mmin (pc := 44) C cm_X0_53 cm_min_s cm_i cm_min_c (by decide) rfl (Nat.le_of_ble_eq_true rfl) dX0_endMorning_44 ?_
        refine k_putI (pc := 47) C pl_X0_43 (k_in0 hg hi) rfl rfl dX0_endMorning_47 ?_
        exact k_vret (pc := 50) C rfl (k_fm (by unfold f_X0_endMorning; rw [if_neg c4, if_pos c13, if_pos c29]; try rfl)) dX0_endMorning_50
      · skip
        refine k_iconst (pc := 32) (v := 0) C dX0_endMorning_32 (by decide) ?_
        refine k_goto (pc := 33) C 47 dX0_endMorning_33 (by decide) ?_
        refine k_putI (pc := 47) C pl_X0_43 (k_in0 hg hi) rfl rfl dX0_endMorning_47 ?_
        exact k_vret (pc := 50) C rfl (k_fm (by unfold f_X0_endMorning; rw [if_neg c4, if_pos c13, if_neg c29]; try rfl)) dX0_endMorning_50
    · skip
      refine k_aload_n (pc := 16) C dX0_endMorning_16 rfl ?_
      refine k_aload_n (pc := 17) C dX0_endMorning_17 rfl ?_
      refine k_getI (pc := 18) C fl_X0_15 (k_in0 hg hi) rfl rfl dX0_endMorning_18 ?_
      refine k_putI (pc := 21) C pl_X0_9 (k_in0 hg hi) rfl rfl dX0_endMorning_21 ?_
      refine k_aload_n (pc := 24) C dX0_endMorning_24 rfl ?_
      refine k_aload_n (pc := 25) C dX0_endMorning_25 rfl ?_
      refine k_getI (pc := 26) C fl_X0_50 (k_in0 hg hi) rfl rfl dX0_endMorning_26 ?_
      refine k_if_eq (pc := 29) C 36 dX0_endMorning_29 (by decide) (fun c29 => ?_) (fun c29 => ?_)
      · skip
        refine k_bipush (pc := 36) (v := 99) C dX0_endMorning_36 (by decide) ?_
        refine k_aload_n (pc := 38) C dX0_endMorning_38 rfl ?_
        refine k_getI (pc := 39) C fl_X0_43 (k_in0 hg hi) rfl rfl dX0_endMorning_39 ?_
        refine k_iconst (pc := 42) (v := 1) C dX0_endMorning_42 (by decide) ?_
        refine k_iadd (pc := 43) C dX0_endMorning_43 ?_
        refine k_mmin (pc := 44) C cm_X0_53 cm_min_s cm_i cm_min_c (by decide) rfl (Nat.le_of_ble_eq_true rfl) dX0_endMorning_44 ?_
        refine k_putI (pc := 47) C pl_X0_43 (k_in0 hg hi) rfl rfl dX0_endMorning_47 ?_
        exact k_vret (pc := 50) C rfl (k_fm (by unfold f_X0_endMorning; rw [if_neg c4, if_neg c13, if_pos c29]; try rfl)) dX0_endMorning_50
      · skip
        refine k_iconst (pc := 32) (v := 0) C dX0_endMorning_32 (by decide) ?_
        refine k_goto (pc := 33) C 47 dX0_endMorning_33 (by decide) ?_
        refine k_putI (pc := 47) C pl_X0_43 (k_in0 hg hi) rfl rfl dX0_endMorning_47 ?_
        exact k_vret (pc := 50) C rfl (k_fm (by unfold f_X0_endMorning; rw [if_neg c4, if_neg c13, if_neg c29]; try rfl)) dX0_endMorning_50
  · skip
    exact k_vret (pc := 7) C rfl (k_fm (by unfold f_X0_endMorning; rw [if_pos c4]; try rfl)) dX0_endMorning_7
def f_X0_become (mi : MemI) (g : Nat) (i : Nat) (g2 : Nat) (i2 : Nat) : MemI :=
  (k_ui (k_ui (k_ui (k_ui (k_ui (k_ui mi (0, g, i) 1 (mi (0, g2, i2) 1)) (0, g, i) 2 ((k_ui mi (0, g, i) 1 (mi (0, g2, i2) 1)) (0, g2, i2) 2)) (0, g, i) 3 ((k_ui (k_ui mi (0, g, i) 1 (mi (0, g2, i2) 1)) (0, g, i) 2 ((k_ui mi (0, g, i) 1 (mi (0, g2, i2) 1)) (0, g2, i2) 2)) (0, g2, i2) 3)) (0, g, i) 4 ((k_ui (k_ui (k_ui mi (0, g, i) 1 (mi (0, g2, i2) 1)) (0, g, i) 2 ((k_ui mi (0, g, i) 1 (mi (0, g2, i2) 1)) (0, g2, i2) 2)) (0, g, i) 3 ((k_ui (k_ui mi (0, g, i) 1 (mi (0, g2, i2) 1)) (0, g, i) 2 ((k_ui mi (0, g, i) 1 (mi (0, g2, i2) 1)) (0, g2, i2) 2)) (0, g2, i2) 3)) (0, g2, i2) 4)) (0, g, i) 5 ((k_ui (k_ui (k_ui (k_ui mi (0, g, i) 1 (mi (0, g2, i2) 1)) (0, g, i) 2 ((k_ui mi (0, g, i) 1 (mi (0, g2, i2) 1)) (0, g2, i2) 2)) (0, g, i) 3 ((k_ui (k_ui mi (0, g, i) 1 (mi (0, g2, i2) 1)) (0, g, i) 2 ((k_ui mi (0, g, i) 1 (mi (0, g2, i2) 1)) (0, g2, i2) 2)) (0, g2, i2) 3)) (0, g, i) 4 ((k_ui (k_ui (k_ui mi (0, g, i) 1 (mi (0, g2, i2) 1)) (0, g, i) 2 ((k_ui mi (0, g, i) 1 (mi (0, g2, i2) 1)) (0, g2, i2) 2)) (0, g, i) 3 ((k_ui (k_ui mi (0, g, i) 1 (mi (0, g2, i2) 1)) (0, g, i) 2 ((k_ui mi (0, g, i) 1 (mi (0, g2, i2) 1)) (0, g2, i2) 2)) (0, g2, i2) 3)) (0, g2, i2) 4)) (0, g2, i2) 5)) (0, g, i) 6 ((k_ui (k_ui (k_ui (k_ui (k_ui mi (0, g, i) 1 (mi (0, g2, i2) 1)) (0, g, i) 2 ((k_ui mi (0, g, i) 1 (mi (0, g2, i2) 1)) (0, g2, i2) 2)) (0, g, i) 3 ((k_ui (k_ui mi (0, g, i) 1 (mi (0, g2, i2) 1)) (0, g, i) 2 ((k_ui mi (0, g, i) 1 (mi (0, g2, i2) 1)) (0, g2, i2) 2)) (0, g2, i2) 3)) (0, g, i) 4 ((k_ui (k_ui (k_ui mi (0, g, i) 1 (mi (0, g2, i2) 1)) (0, g, i) 2 ((k_ui mi (0, g, i) 1 (mi (0, g2, i2) 1)) (0, g2, i2) 2)) (0, g, i) 3 ((k_ui (k_ui mi (0, g, i) 1 (mi (0, g2, i2) 1)) (0, g, i) 2 ((k_ui mi (0, g, i) 1 (mi (0, g2, i2) 1)) (0, g2, i2) 2)) (0, g2, i2) 3)) (0, g2, i2) 4)) (0, g, i) 5 ((k_ui (k_ui (k_ui (k_ui mi (0, g, i) 1 (mi (0, g2, i2) 1)) (0, g, i) 2 ((k_ui mi (0, g, i) 1 (mi (0, g2, i2) 1)) (0, g2, i2) 2)) (0, g, i) 3 ((k_ui (k_ui mi (0, g, i) 1 (mi (0, g2, i2) 1)) (0, g, i) 2 ((k_ui mi (0, g, i) 1 (mi (0, g2, i2) 1)) (0, g2, i2) 2)) (0, g2, i2) 3)) (0, g, i) 4 ((k_ui (k_ui (k_ui mi (0, g, i) 1 (mi (0, g2, i2) 1)) (0, g, i) 2 ((k_ui mi (0, g, i) 1 (mi (0, g2, i2) 1)) (0, g2, i2) 2)) (0, g, i) 3 ((k_ui (k_ui mi (0, g, i) 1 (mi (0, g2, i2) 1)) (0, g, i) 2 ((k_ui mi (0, g, i) 1 (mi (0, g2, i2) 1)) (0, g2, i2) 2)) (0, g2, i2) 3)) (0, g2, i2) 4)) (0, g2, i2) 5)) (0, g2, i2) 6))
set_option maxRecDepth 100000 in
set_option maxHeartbeats 4000000 in
theorem ct_X0_become {mi : MemI} {ml : MemL} {g : Nat} {i : Nat} {g2 : Nat} {i2 : Nat} (hg : g < 3) (hi : i < 6) (hg2 : g2 < 3) (hi2 : i2 < 6) (hz1 : mi (0, g2, i2) 1 = 0 ∨ mi (0, g2, i2) 1 = 1) (hz2 : k_ui mi (0, g, i) 1 (mi (0, g2, i2) 1) (0, g2, i2) 2 = 0 ∨ k_ui mi (0, g, i) 1 (mi (0, g2, i2) 1) (0, g2, i2) 2 = 1) : k_Ct k_KS k_R0 Mt_X0_become 0 [vR (0, g, i), vR (0, g2, i2)] mi ml (k_rt none (f_X0_become mi g i g2 i2) ml) := by
  refine k_ofV (L0 := [vR (0, g, i), vR (0, g2, i2)]) (by decide +kernel) (Nat.le_of_ble_eq_true rfl) rfl rfl ?_
  intro p l e s m args below meth c D cy ad bs C
  refine k_aload_n (pc := 0) C dX0_become_0 rfl ?_
  refine k_aload_n (pc := 1) C dX0_become_1 rfl ?_
  refine k_getI (pc := 2) C fl_X0_30 (k_in0 hg2 hi2) rfl rfl dX0_become_2 ?_
  refine k_putZ (pc := 5) C (by assumption) pl_X0_30 (k_in0 hg hi) rfl rfl dX0_become_5 ?_
  refine k_aload_n (pc := 8) C dX0_become_8 rfl ?_
  refine k_aload_n (pc := 9) C dX0_become_9 rfl ?_
  refine k_getI (pc := 10) C fl_X0_34 (k_in0 hg2 hi2) rfl rfl dX0_become_10 ?_
  refine k_putZ (pc := 13) C (by assumption) pl_X0_34 (k_in0 hg hi) rfl rfl dX0_become_13 ?_
  refine k_aload_n (pc := 16) C dX0_become_16 rfl ?_
  refine k_aload_n (pc := 17) C dX0_become_17 rfl ?_
  refine k_getI (pc := 18) C fl_X0_37 (k_in0 hg2 hi2) rfl rfl dX0_become_18 ?_
  refine k_putI (pc := 21) C pl_X0_37 (k_in0 hg hi) rfl rfl dX0_become_21 ?_
  refine k_aload_n (pc := 24) C dX0_become_24 rfl ?_
  refine k_aload_n (pc := 25) C dX0_become_25 rfl ?_
  refine k_getI (pc := 26) C fl_X0_40 (k_in0 hg2 hi2) rfl rfl dX0_become_26 ?_
  refine k_putI (pc := 29) C pl_X0_40 (k_in0 hg hi) rfl rfl dX0_become_29 ?_
  refine k_aload_n (pc := 32) C dX0_become_32 rfl ?_
  refine k_aload_n (pc := 33) C dX0_become_33 rfl ?_
  refine k_getI (pc := 34) C fl_X0_9 (k_in0 hg2 hi2) rfl rfl dX0_become_34 ?_
  refine k_putI (pc := 37) C pl_X0_9 (k_in0 hg hi) rfl rfl dX0_become_37 ?_
  refine k_aload_n (pc := 40) C dX0_become_40 rfl ?_
  refine k_aload_n (pc := 41) C dX0_become_41 rfl ?_
  refine k_getI (pc := 42) C fl_X0_43 (k_in0 hg2 hi2) rfl rfl dX0_become_42 ?_
  refine k_putI (pc := 45) C pl_X0_43 (k_in0 hg hi) rfl rfl dX0_become_45 ?_
  exact k_vret (pc := 48) C rfl (k_fm rfl) dX0_become_48
