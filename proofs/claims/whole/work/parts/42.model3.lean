/-! Model: rows and people -/
/-- the sizes of the model's rows -/
def k_sz (mi : MemI) : Prop := ∀ s0, s0 < 8 → ∃ len : Nat, len ≤ 160 ∧ mi (8, 20, 0) s0 = nI len
theorem k_vsz {mi : MemI} {sn : Nat} {x : Int32} (hsz : k_sz mi) (hs : sn < 8) (h0 : ¬ x < 0) (h1 : x < mi (8, 20, 0) sn) : vp_in x 160 := by
  obtain ⟨len, hl, e⟩ := hsz sn hs
  rw [e] at h1
  exact vp_mono (k_vin3 (N := nI len) (n := len) h0 h1 (nI_toInt (by omega))) hl
def f_X7_set (mi : MemI) (ml : MemL) (s0 : Int32) (x : Int32) (v : Int64) : Int32 × MemI × MemL :=
  if (f_X7_isShelf s0) = 0 then ((f_X7_no mi (-1)).1, (f_X7_no mi (-1)).2, ml)
  else if (mi (8, 18, 0) s0.toNatClampNeg) = 2 then ((f_X7_no mi (-2)).1, (f_X7_no mi (-2)).2, ml)
    else if (mi (8, 18, 0) s0.toNatClampNeg) = 0 then ((f_X7_no mi (-3)).1, (f_X7_no mi (-3)).2, ml)
      else if x < 0 then ((f_X7_no mi (-5)).1, (f_X7_no mi (-5)).2, ml)
        else if x < (mi (8, 20, 0) s0.toNatClampNeg) then if (mi (8, 19, 0) s0.toNatClampNeg) = 0 then (1, mi, k_ul ml (9, 1, 0) (((160 * s0) + x).toNatClampNeg) v.toInt32.toInt8.toInt32.toInt64)
            else if (mi (8, 19, 0) s0.toNatClampNeg) = 1 then (1, mi, k_ul ml (9, 1, 0) (((160 * s0) + x).toNatClampNeg) v.toInt32.toInt16.toInt32.toInt64)
              else if (mi (8, 19, 0) s0.toNatClampNeg) = 2 then (1, mi, k_ul ml (9, 1, 0) (((160 * s0) + x).toNatClampNeg) v.toInt32.toInt64)
                else (1, mi, k_ul ml (9, 1, 0) (((160 * s0) + x).toNatClampNeg) v)
          else ((f_X7_no mi (-5)).1, (f_X7_no mi (-5)).2, ml)
set_option maxRecDepth 100000 in
set_option maxHeartbeats 4000000 in
theorem ct_X7_set {mi : MemI} {ml : MemL} {s0 : Int32} {x : Int32} {v : Int64} (hsz : k_sz mi) : k_Ct k_KS k_R0 Mt_X7_set 1 [vR (7, 0, 0), vI s0, vI x, vL v] mi ml (k_rt (some (vI (f_X7_set mi ml s0 x v).1)) (f_X7_set mi ml s0 x v).2.1 (f_X7_set mi ml s0 x v).2.2) := by
  refine k_ofV (L0 := [vR (7, 0, 0), vI s0, vI x, vL v, vU]) (by decide +kernel) (Nat.le_of_ble_eq_true rfl) rfl rfl ?_
  intro p l e s m args below meth c D cy ad bs C
  refine k_aload_n (pc := 0) C dX7_set_0 rfl ?_
  refine k_iload_n (pc := 1) C dX7_set_1 rfl ?_
  refine k_call1 (pc := 2) C cv_X7_135 ct_X7_isShelf k_in7 rfl (by decide) rfl (Nat.le_of_ble_eq_true rfl) dX7_set_2 ?_
  refine k_if_ne (pc := 5) C 14 dX7_set_5 (by decide) (fun c5 => ?_) (fun c5 => ?_)
  · skip
    have qc5 := isShelf_in c5
    refine k_aload_n (pc := 14) C dX7_set_14 rfl ?_
    refine k_getR (pc := 15) (r := some (8, 18, 0)) C fl_X7_56 k_in7 rfl rfl rfl dX7_set_15 ?_
    refine k_iload_n (pc := 18) C dX7_set_18 rfl ?_
    refine k_ialdX (pc := 19) (j := s0.toNatClampNeg) C rfl (by decide +kernel) rfl (by first | assumption | exact k_vin (N := 8) (n := 8) (by assumption) (by assumption) (by decide)) dX7_set_19 ?_
    refine k_iconst (pc := 20) (v := 2) C dX7_set_20 (by decide) ?_
    refine k_icmp_ne (pc := 21) C 31 dX7_set_21 (by decide) (fun c21 => ?_) (fun c21 => ?_)
    · skip
      refine k_aload_n (pc := 31) C dX7_set_31 rfl ?_
      refine k_getR (pc := 32) (r := some (8, 18, 0)) C fl_X7_56 k_in7 rfl rfl rfl dX7_set_32 ?_
      refine k_iload_n (pc := 35) C dX7_set_35 rfl ?_
      refine k_ialdX (pc := 36) (j := s0.toNatClampNeg) C rfl (by decide +kernel) rfl (by first | assumption | exact k_vin (N := 8) (n := 8) (by assumption) (by assumption) (by decide)) dX7_set_36 ?_
      refine k_if_ne (pc := 37) C 47 dX7_set_37 (by decide) (fun c37 => ?_) (fun c37 => ?_)
      · skip
        refine k_iload_n (pc := 47) C dX7_set_47 rfl ?_
        refine k_if_lt (pc := 48) C 61 dX7_set_48 (by decide) (fun c48 => ?_) (fun c48 => ?_)
        · skip
          refine k_aload_n (pc := 61) C dX7_set_61 rfl ?_
          refine k_bipush (pc := 62) (v := (-5)) C dX7_set_62 (by decide) ?_
          refine k_call1 (pc := 64) C cv_X7_139 (ct_X7_no (k_vd (by decide))) k_in7 rfl (by decide) rfl (Nat.le_of_ble_eq_true rfl) dX7_set_64 ?_
          exact k_iret (pc := 67) C rfl (k_fIml (by unfold f_X7_set; rw [if_neg c5, if_neg c21, if_neg c37, if_pos c48]; try rfl)) dX7_set_67
        · skip
          refine k_iload_n (pc := 51) C dX7_set_51 rfl ?_
          refine k_aload_n (pc := 52) C dX7_set_52 rfl ?_
          refine k_getR (pc := 53) (r := some (8, 20, 0)) C fl_X7_62 k_in7 rfl rfl rfl dX7_set_53 ?_
          refine k_iload_n (pc := 56) C dX7_set_56 rfl ?_
          refine k_ialdX (pc := 57) (j := s0.toNatClampNeg) C rfl (by decide +kernel) rfl (by first | assumption | exact k_vin (N := 8) (n := 8) (by assumption) (by assumption) (by decide)) dX7_set_57 ?_
          refine k_icmp_lt (pc := 58) C 68 dX7_set_58 (by decide) (fun c58 => ?_) (fun c58 => ?_)
          · skip
            have hcl := k_cellin (by assumption) (k_vsz hsz (k_clamp (show vp_in s0 8 by assumption)) c48 c58)
            refine k_aload_n (pc := 68) C dX7_set_68 rfl ?_
            refine k_getR (pc := 69) (r := some (9, 1, 0)) C fl_X7_68 k_in7 rfl rfl rfl dX7_set_69 ?_
            refine k_sipush (pc := 72) (v := 160) C dX7_set_72 (by decide) ?_
            refine k_iload_n (pc := 75) C dX7_set_75 rfl ?_
            refine k_imul (pc := 76) C dX7_set_76 ?_
            refine k_iload_n (pc := 77) C dX7_set_77 rfl ?_
            refine k_iadd (pc := 78) C dX7_set_78 ?_
            refine k_aload_n (pc := 79) C dX7_set_79 rfl ?_
            refine k_getR (pc := 80) (r := some (8, 19, 0)) C fl_X7_59 k_in7 rfl rfl rfl dX7_set_80 ?_
            refine k_iload_n (pc := 83) C dX7_set_83 rfl ?_
            refine k_ialdX (pc := 84) (j := s0.toNatClampNeg) C rfl (by decide +kernel) rfl (by first | assumption | exact k_vin (N := 8) (n := 8) (by assumption) (by assumption) (by decide)) dX7_set_84 ?_
            refine k_if_ne (pc := 85) C 95 dX7_set_85 (by decide) (fun c85 => ?_) (fun c85 => ?_)
            · skip
              refine k_aload_n (pc := 95) C dX7_set_95 rfl ?_
              refine k_getR (pc := 96) (r := some (8, 19, 0)) C fl_X7_59 k_in7 rfl rfl rfl dX7_set_96 ?_
              refine k_iload_n (pc := 99) C dX7_set_99 rfl ?_
              refine k_ialdX (pc := 100) (j := s0.toNatClampNeg) C rfl (by decide +kernel) rfl (by first | assumption | exact k_vin (N := 8) (n := 8) (by assumption) (by assumption) (by decide)) dX7_set_100 ?_
              refine k_iconst (pc := 101) (v := 1) C dX7_set_101 (by decide) ?_
              refine k_icmp_ne (pc := 102) C 112 dX7_set_102 (by decide) (fun c102 => ?_) (fun c102 => ?_)
              · skip
                refine k_aload_n (pc := 112) C dX7_set_112 rfl ?_
                refine k_getR (pc := 113) (r := some (8, 19, 0)) C fl_X7_59 k_in7 rfl rfl rfl dX7_set_113 ?_
                refine k_iload_n (pc := 116) C dX7_set_116 rfl ?_
                refine k_ialdX (pc := 117) (j := s0.toNatClampNeg) C rfl (by decide +kernel) rfl (by first | assumption | exact k_vin (N := 8) (n := 8) (by assumption) (by assumption) (by decide)) dX7_set_117 ?_
                refine k_iconst (pc := 118) (v := 2) C dX7_set_118 (by decide) ?_
                refine k_icmp_ne (pc := 119) C 128 dX7_set_119 (by decide) (fun c119 => ?_) (fun c119 => ?_)
                · skip
                  refine k_lload_n (pc := 128) C dX7_set_128 rfl ?_
                  refine k_lastX (pc := 129) (j := ((160 * s0) + x).toNatClampNeg) C rfl (by decide +kernel) rfl hcl.1 dX7_set_129 ?_
                  refine k_iconst (pc := 130) (v := 1) C dX7_set_130 (by decide) ?_
                  exact k_iret (pc := 131) C rfl (k_fIml (by unfold f_X7_set; rw [if_neg c5, if_neg c21, if_neg c37, if_neg c48, if_pos c58, if_neg c85, if_neg c102, if_neg c119]; try rfl)) dX7_set_131
                · skip
                  refine k_lload_n (pc := 122) C dX7_set_122 rfl ?_
                  refine k_l2i (pc := 123) C dX7_set_123 ?_
                  refine k_i2l (pc := 124) C dX7_set_124 ?_
                  refine k_goto (pc := 125) C 129 dX7_set_125 (by decide) ?_
                  refine k_lastX (pc := 129) (j := ((160 * s0) + x).toNatClampNeg) C rfl (by decide +kernel) rfl hcl.1 dX7_set_129 ?_
                  refine k_iconst (pc := 130) (v := 1) C dX7_set_130 (by decide) ?_
                  exact k_iret (pc := 131) C rfl (k_fIml (by unfold f_X7_set; rw [if_neg c5, if_neg c21, if_neg c37, if_neg c48, if_pos c58, if_neg c85, if_neg c102, if_pos c119]; try rfl)) dX7_set_131
              · skip
                refine k_lload_n (pc := 105) C dX7_set_105 rfl ?_
                refine k_l2i (pc := 106) C dX7_set_106 ?_
                refine k_i2s (pc := 107) C dX7_set_107 ?_
                refine k_i2l (pc := 108) C dX7_set_108 ?_
                refine k_goto (pc := 109) C 129 dX7_set_109 (by decide) ?_
                refine k_lastX (pc := 129) (j := ((160 * s0) + x).toNatClampNeg) C rfl (by decide +kernel) rfl hcl.1 dX7_set_129 ?_
                refine k_iconst (pc := 130) (v := 1) C dX7_set_130 (by decide) ?_
                exact k_iret (pc := 131) C rfl (k_fIml (by unfold f_X7_set; rw [if_neg c5, if_neg c21, if_neg c37, if_neg c48, if_pos c58, if_neg c85, if_pos c102]; try rfl)) dX7_set_131
            · skip
              refine k_lload_n (pc := 88) C dX7_set_88 rfl ?_
              refine k_l2i (pc := 89) C dX7_set_89 ?_
              refine k_i2b (pc := 90) C dX7_set_90 ?_
              refine k_i2l (pc := 91) C dX7_set_91 ?_
              refine k_goto (pc := 92) C 129 dX7_set_92 (by decide) ?_
              refine k_lastX (pc := 129) (j := ((160 * s0) + x).toNatClampNeg) C rfl (by decide +kernel) rfl hcl.1 dX7_set_129 ?_
              refine k_iconst (pc := 130) (v := 1) C dX7_set_130 (by decide) ?_
              exact k_iret (pc := 131) C rfl (k_fIml (by unfold f_X7_set; rw [if_neg c5, if_neg c21, if_neg c37, if_neg c48, if_pos c58, if_pos c85]; try rfl)) dX7_set_131
          · skip
            refine k_aload_n (pc := 61) C dX7_set_61 rfl ?_
            refine k_bipush (pc := 62) (v := (-5)) C dX7_set_62 (by decide) ?_
            refine k_call1 (pc := 64) C cv_X7_139 (ct_X7_no (k_vd (by decide))) k_in7 rfl (by decide) rfl (Nat.le_of_ble_eq_true rfl) dX7_set_64 ?_
            exact k_iret (pc := 67) C rfl (k_fIml (by unfold f_X7_set; rw [if_neg c5, if_neg c21, if_neg c37, if_neg c48, if_neg c58]; try rfl)) dX7_set_67
      · skip
        refine k_aload_n (pc := 40) C dX7_set_40 rfl ?_
        refine k_bipush (pc := 41) (v := (-3)) C dX7_set_41 (by decide) ?_
        refine k_call1 (pc := 43) C cv_X7_139 (ct_X7_no (k_vd (by decide))) k_in7 rfl (by decide) rfl (Nat.le_of_ble_eq_true rfl) dX7_set_43 ?_
        exact k_iret (pc := 46) C rfl (k_fIml (by unfold f_X7_set; rw [if_neg c5, if_neg c21, if_pos c37]; try rfl)) dX7_set_46
    · skip
      refine k_aload_n (pc := 24) C dX7_set_24 rfl ?_
      refine k_bipush (pc := 25) (v := (-2)) C dX7_set_25 (by decide) ?_
      refine k_call1 (pc := 27) C cv_X7_139 (ct_X7_no (k_vd (by decide))) k_in7 rfl (by decide) rfl (Nat.le_of_ble_eq_true rfl) dX7_set_27 ?_
      exact k_iret (pc := 30) C rfl (k_fIml (by unfold f_X7_set; rw [if_neg c5, if_pos c21]; try rfl)) dX7_set_30
  · skip
    refine k_aload_n (pc := 8) C dX7_set_8 rfl ?_
    refine k_iconst (pc := 9) (v := (-1)) C dX7_set_9 (by decide) ?_
    refine k_call1 (pc := 10) C cv_X7_139 (ct_X7_no (k_vd (by decide))) k_in7 rfl (by decide) rfl (Nat.le_of_ble_eq_true rfl) dX7_set_10 ?_
    exact k_iret (pc := 13) C rfl (k_fIml (by unfold f_X7_set; rw [if_pos c5]; try rfl)) dX7_set_13
def f_X7_element (mi : MemI) (ml : MemL) (s0 : Int32) (x : Int32) : Int64 :=
  if (f_X7_isShelf s0) = 0 then 0
  else if (mi (8, 18, 0) s0.toNatClampNeg) = 1 then if x < 0 then 0
      else if (mi (8, 20, 0) s0.toNatClampNeg) ≤ x then 0
        else (ml (9, 1, 0) (((160 * s0) + x).toNatClampNeg))
    else 0
set_option maxRecDepth 100000 in
set_option maxHeartbeats 4000000 in
theorem ct_X7_element {mi : MemI} {ml : MemL} {s0 : Int32} {x : Int32} (hsz : k_sz mi) : k_Ct k_KS k_R0 Mt_X7_element 1 [vR (7, 0, 0), vI s0, vI x] mi ml (k_rt (some (vL (f_X7_element mi ml s0 x))) mi ml) := by
  refine k_ofV (L0 := [vR (7, 0, 0), vI s0, vI x]) (by decide +kernel) (Nat.le_of_ble_eq_true rfl) rfl rfl ?_
  intro p l e s m args below meth c D cy ad bs C
  refine k_aload_n (pc := 0) C dX7_element_0 rfl ?_
  refine k_iload_n (pc := 1) C dX7_element_1 rfl ?_
  refine k_call1 (pc := 2) C cv_X7_135 ct_X7_isShelf k_in7 rfl (by decide) rfl (Nat.le_of_ble_eq_true rfl) dX7_element_2 ?_
  refine k_if_eq (pc := 5) C 47 dX7_element_5 (by decide) (fun c5 => ?_) (fun c5 => ?_)
  · skip
    refine k_lconst (pc := 47) (v := 0) C dX7_element_47 (by decide) ?_
    exact k_lret (pc := 48) C rfl (k_fL (by unfold f_X7_element; rw [if_pos c5]; try rfl)) dX7_element_48
  · skip
    have qc5 := isShelf_in c5
    refine k_aload_n (pc := 8) C dX7_element_8 rfl ?_
    refine k_getR (pc := 9) (r := some (8, 18, 0)) C fl_X7_56 k_in7 rfl rfl rfl dX7_element_9 ?_
    refine k_iload_n (pc := 12) C dX7_element_12 rfl ?_
    refine k_ialdX (pc := 13) (j := s0.toNatClampNeg) C rfl (by decide +kernel) rfl (by first | assumption | exact k_vin (N := 8) (n := 8) (by assumption) (by assumption) (by decide)) dX7_element_13 ?_
    refine k_iconst (pc := 14) (v := 1) C dX7_element_14 (by decide) ?_
    refine k_icmp_ne (pc := 15) C 47 dX7_element_15 (by decide) (fun c15 => ?_) (fun c15 => ?_)
    · skip
      refine k_lconst (pc := 47) (v := 0) C dX7_element_47 (by decide) ?_
      exact k_lret (pc := 48) C rfl (k_fL (by unfold f_X7_element; rw [if_neg c5, if_neg c15]; try rfl)) dX7_element_48
    · skip
      refine k_iload_n (pc := 18) C dX7_element_18 rfl ?_
      refine k_if_lt (pc := 19) C 47 dX7_element_19 (by decide) (fun c19 => ?_) (fun c19 => ?_)
      · skip
        refine k_lconst (pc := 47) (v := 0) C dX7_element_47 (by decide) ?_
        exact k_lret (pc := 48) C rfl (k_fL (by unfold f_X7_element; rw [if_neg c5, if_pos c15, if_pos c19]; try rfl)) dX7_element_48
      · skip
        refine k_iload_n (pc := 22) C dX7_element_22 rfl ?_
        refine k_aload_n (pc := 23) C dX7_element_23 rfl ?_
        refine k_getR (pc := 24) (r := some (8, 20, 0)) C fl_X7_62 k_in7 rfl rfl rfl dX7_element_24 ?_
        refine k_iload_n (pc := 27) C dX7_element_27 rfl ?_
        refine k_ialdX (pc := 28) (j := s0.toNatClampNeg) C rfl (by decide +kernel) rfl (by first | assumption | exact k_vin (N := 8) (n := 8) (by assumption) (by assumption) (by decide)) dX7_element_28 ?_
        refine k_icmp_ge (pc := 29) C 47 dX7_element_29 (by decide) (fun c29 => ?_) (fun c29 => ?_)
        · skip
          refine k_lconst (pc := 47) (v := 0) C dX7_element_47 (by decide) ?_
          exact k_lret (pc := 48) C rfl (k_fL (by unfold f_X7_element; rw [if_neg c5, if_pos c15, if_neg c19, if_pos c29]; try rfl)) dX7_element_48
        · skip
          refine k_aload_n (pc := 32) C dX7_element_32 rfl ?_
          refine k_getR (pc := 33) (r := some (9, 1, 0)) C fl_X7_68 k_in7 rfl rfl rfl dX7_element_33 ?_
          refine k_sipush (pc := 36) (v := 160) C dX7_element_36 (by decide) ?_
          refine k_iload_n (pc := 39) C dX7_element_39 rfl ?_
          refine k_imul (pc := 40) C dX7_element_40 ?_
          refine k_iload_n (pc := 41) C dX7_element_41 rfl ?_
          refine k_iadd (pc := 42) C dX7_element_42 ?_
          have hcl := k_cellin (by assumption) (k_vsz hsz (k_clamp (show vp_in s0 8 by assumption)) c19 (Int32.not_le.mp c29))
          refine k_laldX (pc := 43) (j := ((160 * s0) + x).toNatClampNeg) C rfl (by decide +kernel) rfl hcl.1 dX7_element_43 ?_
          refine k_goto (pc := 44) C 48 dX7_element_44 (by decide) ?_
          exact k_lret (pc := 48) C rfl (k_fL (by unfold f_X7_element; rw [if_neg c5, if_pos c15, if_neg c19, if_neg c29]; try rfl)) dX7_element_48
def f_X7_intAt (mi : MemI) (ml : MemL) (s0 : Int32) (x : Int32) : Int32 :=
  ((ml (9, 1, 0) (((160 * s0) + x).toNatClampNeg)).toInt32)
set_option maxRecDepth 100000 in
set_option maxHeartbeats 4000000 in
theorem ct_X7_intAt {mi : MemI} {ml : MemL} {s0 : Int32} {x : Int32} (hs : vp_in s0 8) (hx : vp_in x 160) : k_Ct k_KS k_R0 Mt_X7_intAt 0 [vR (7, 0, 0), vI s0, vI x] mi ml (k_rt (some (vI (f_X7_intAt mi ml s0 x))) mi ml) := by
  refine k_ofV (L0 := [vR (7, 0, 0), vI s0, vI x]) (by decide +kernel) (Nat.le_of_ble_eq_true rfl) rfl rfl ?_
  intro p l e s m args below meth c D cy ad bs C
  refine k_aload_n (pc := 0) C dX7_intAt_0 rfl ?_
  refine k_getR (pc := 1) (r := some (9, 1, 0)) C fl_X7_68 k_in7 rfl rfl rfl dX7_intAt_1 ?_
  refine k_sipush (pc := 4) (v := 160) C dX7_intAt_4 (by decide) ?_
  refine k_iload_n (pc := 7) C dX7_intAt_7 rfl ?_
  refine k_imul (pc := 8) C dX7_intAt_8 ?_
  refine k_iload_n (pc := 9) C dX7_intAt_9 rfl ?_
  refine k_iadd (pc := 10) C dX7_intAt_10 ?_
  refine k_laldX (pc := 11) (j := ((160 * s0) + x).toNatClampNeg) C rfl (by decide +kernel) rfl (k_cellin hs hx).1 dX7_intAt_11 ?_
  refine k_l2i (pc := 12) C dX7_intAt_12 ?_
  exact k_iret (pc := 13) C rfl (k_fI rfl) dX7_intAt_13

def f_X7_post (mi : MemI) (bg : Int32) (is : Int32) : Int32 × MemI :=
  if (f_X7_isBeggar mi bg) = 0 then ((f_X7_no mi (-1)).1, (f_X7_no mi (-1)).2)
  else if is = 0 then (mi (8, 17, 0) bg.toNatClampNeg, k_ui mi (8, 17, 0) bg.toNatClampNeg 0)
    else (mi (8, 17, 0) bg.toNatClampNeg, k_ui mi (8, 17, 0) bg.toNatClampNeg 1)
set_option maxRecDepth 100000 in
set_option maxHeartbeats 4000000 in
theorem ct_X7_post {nB : Nat} {mi : MemI} {ml : MemL} {bg : Int32} {is : Int32} (hB : mi (7, 0, 0) 1 = nI nB) (h6b : nB ≤ 6) : k_Ct k_KS k_R0 Mt_X7_post 1 [vR (7, 0, 0), vI bg, vI is] mi ml (k_rt (some (vI (f_X7_post mi bg is).1)) (f_X7_post mi bg is).2 ml) := by
  refine k_ofV (L0 := [vR (7, 0, 0), vI bg, vI is, vU]) (by decide +kernel) (Nat.le_of_ble_eq_true rfl) rfl rfl ?_
  intro p l e s m args below meth c D cy ad bs C
  refine k_aload_n (pc := 0) C dX7_post_0 rfl ?_
  refine k_iload_n (pc := 1) C dX7_post_1 rfl ?_
  refine k_call1 (pc := 2) C cv_X7_161 ct_X7_isBeggar k_in7 rfl (by decide) rfl (Nat.le_of_ble_eq_true rfl) dX7_post_2 ?_
  refine k_if_ne (pc := 5) C 14 dX7_post_5 (by decide) (fun c5 => ?_) (fun c5 => ?_)
  · skip
    have qc5 := vp_mono (isBeggar_in hB h6b c5) h6b
    refine k_aload_n (pc := 14) C dX7_post_14 rfl ?_
    refine k_getR (pc := 15) (r := some (8, 17, 0)) C fl_X7_53 k_in7 rfl rfl rfl dX7_post_15 ?_
    refine k_iload_n (pc := 18) C dX7_post_18 rfl ?_
    refine k_ialdX (pc := 19) (j := bg.toNatClampNeg) C rfl (by decide +kernel) rfl (by first | assumption | exact k_vin (N := 6) (n := 6) (by assumption) (by assumption) (by decide)) dX7_post_19 ?_
    refine k_istore_3 (pc := 20) C dX7_post_20 rfl ?_
    refine k_aload_n (pc := 21) C dX7_post_21 rfl ?_
    refine k_getR (pc := 22) (r := some (8, 17, 0)) C fl_X7_53 k_in7 rfl rfl rfl dX7_post_22 ?_
    refine k_iload_n (pc := 25) C dX7_post_25 rfl ?_
    refine k_iload_n (pc := 26) C dX7_post_26 rfl ?_
    refine k_if_eq (pc := 27) C 34 dX7_post_27 (by decide) (fun c27 => ?_) (fun c27 => ?_)
    · skip
      refine k_iconst (pc := 34) (v := 0) C dX7_post_34 (by decide) ?_
      refine k_iastX (pc := 35) (j := bg.toNatClampNeg) C rfl (by decide +kernel) rfl (by first | assumption | exact k_vin (N := 6) (n := 6) (by assumption) (by assumption) (by decide)) dX7_post_35 ?_
      refine k_iload_n (pc := 36) C dX7_post_36 rfl ?_
      exact k_iret (pc := 37) C rfl (k_fIm (by unfold f_X7_post; rw [if_neg c5, if_pos c27]; try rfl)) dX7_post_37
    · skip
      refine k_iconst (pc := 30) (v := 1) C dX7_post_30 (by decide) ?_
      refine k_goto (pc := 31) C 35 dX7_post_31 (by decide) ?_
      refine k_iastX (pc := 35) (j := bg.toNatClampNeg) C rfl (by decide +kernel) rfl (by first | assumption | exact k_vin (N := 6) (n := 6) (by assumption) (by assumption) (by decide)) dX7_post_35 ?_
      refine k_iload_n (pc := 36) C dX7_post_36 rfl ?_
      exact k_iret (pc := 37) C rfl (k_fIm (by unfold f_X7_post; rw [if_neg c5, if_neg c27]; try rfl)) dX7_post_37
  · skip
    refine k_aload_n (pc := 8) C dX7_post_8 rfl ?_
    refine k_iconst (pc := 9) (v := (-1)) C dX7_post_9 (by decide) ?_
    refine k_call1 (pc := 10) C cv_X7_139 (ct_X7_no (k_vd (by decide))) k_in7 rfl (by decide) rfl (Nat.le_of_ble_eq_true rfl) dX7_post_10 ?_
    exact k_iret (pc := 13) C rfl (k_fIm (by unfold f_X7_post; rw [if_pos c5]; try rfl)) dX7_post_13
def f_X7_citizenOf (mi : MemI) (cz : Int32) (w : Int32) : Int32 × MemI :=
  if (f_X7_isCitizen mi cz) = 0 then ((f_X7_no mi (-5)).1, (f_X7_no mi (-5)).2)
  else if w = 0 then (mi (8, 6, 0) cz.toNatClampNeg, mi)
    else if w = 1 then (mi (8, 7, 0) cz.toNatClampNeg, mi)
      else if w = 2 then (mi (8, 8, 0) cz.toNatClampNeg, mi)
        else if w = 3 then (mi (8, 9, 0) cz.toNatClampNeg, mi)
          else if w = 4 then (mi (8, 10, 0) cz.toNatClampNeg, mi)
            else if w = 5 then (mi (8, 11, 0) cz.toNatClampNeg, mi)
              else if w = 6 then (mi (8, 12, 0) cz.toNatClampNeg, mi)
                else if w = 7 then (f_X7_face mi cz, mi)
                  else ((f_X7_no mi (-5)).1, (f_X7_no mi (-5)).2)
set_option maxRecDepth 100000 in
set_option maxHeartbeats 4000000 in
theorem ct_X7_citizenOf {nC : Nat} {mi : MemI} {ml : MemL} {cz : Int32} {w : Int32} (hC : mi (7, 0, 0) 0 = nI nC) (h6 : nC ≤ 6) : k_Ct k_KS k_R0 Mt_X7_citizenOf 1 [vR (7, 0, 0), vI cz, vI w] mi ml (k_rt (some (vI (f_X7_citizenOf mi cz w).1)) (f_X7_citizenOf mi cz w).2 ml) := by
  refine k_ofV (L0 := [vR (7, 0, 0), vI cz, vI w]) (by decide +kernel) (Nat.le_of_ble_eq_true rfl) rfl rfl ?_
  intro p l e s m args below meth c D cy ad bs C
  refine k_aload_n (pc := 0) C dX7_citizenOf_0 rfl ?_
  refine k_iload_n (pc := 1) C dX7_citizenOf_1 rfl ?_
  refine k_call1 (pc := 2) C cv_X7_143 ct_X7_isCitizen k_in7 rfl (by decide) rfl (Nat.le_of_ble_eq_true rfl) dX7_citizenOf_2 ?_
  refine k_if_ne (pc := 5) C 15 dX7_citizenOf_5 (by decide) (fun c5 => ?_) (fun c5 => ?_)
  · skip
    have qc5 := vp_mono (isCitizen_in hC h6 c5) h6
    refine k_iload_n (pc := 15) C dX7_citizenOf_15 rfl ?_
    by_cases c16_0 : w = 0
    · skip
      refine k_tabIn (pc := 16) (v := 0) C 64 dX7_citizenOf_16 c16_0 (by decide) (by decide) rfl (by decide) ?_
      refine k_aload_n (pc := 64) C dX7_citizenOf_64 rfl ?_
      refine k_getR (pc := 65) (r := some (8, 6, 0)) C fl_X7_20 k_in7 rfl rfl rfl dX7_citizenOf_65 ?_
      refine k_iload_n (pc := 68) C dX7_citizenOf_68 rfl ?_
      refine k_ialdX (pc := 69) (j := cz.toNatClampNeg) C rfl (by decide +kernel) rfl (by first | assumption | exact k_vin (N := 6) (n := 6) (by assumption) (by assumption) (by decide)) dX7_citizenOf_69 ?_
      exact k_iret (pc := 70) C rfl (k_fIm (by unfold f_X7_citizenOf; rw [if_neg c5, if_pos c16_0]; try rfl)) dX7_citizenOf_70
    by_cases c16_1 : w = 1
    · skip
      refine k_tabIn (pc := 16) (v := 1) C 71 dX7_citizenOf_16 c16_1 (by decide) (by decide) rfl (by decide) ?_
      refine k_aload_n (pc := 71) C dX7_citizenOf_71 rfl ?_
      refine k_getR (pc := 72) (r := some (8, 7, 0)) C fl_X7_23 k_in7 rfl rfl rfl dX7_citizenOf_72 ?_
      refine k_iload_n (pc := 75) C dX7_citizenOf_75 rfl ?_
      refine k_ialdX (pc := 76) (j := cz.toNatClampNeg) C rfl (by decide +kernel) rfl (by first | assumption | exact k_vin (N := 6) (n := 6) (by assumption) (by assumption) (by decide)) dX7_citizenOf_76 ?_
      exact k_iret (pc := 77) C rfl (k_fIm (by unfold f_X7_citizenOf; rw [if_neg c5, if_neg c16_0, if_pos c16_1]; try rfl)) dX7_citizenOf_77
    by_cases c16_2 : w = 2
    · skip
      refine k_tabIn (pc := 16) (v := 2) C 78 dX7_citizenOf_16 c16_2 (by decide) (by decide) rfl (by decide) ?_
      refine k_aload_n (pc := 78) C dX7_citizenOf_78 rfl ?_
      refine k_getR (pc := 79) (r := some (8, 8, 0)) C fl_X7_26 k_in7 rfl rfl rfl dX7_citizenOf_79 ?_
      refine k_iload_n (pc := 82) C dX7_citizenOf_82 rfl ?_
      refine k_ialdX (pc := 83) (j := cz.toNatClampNeg) C rfl (by decide +kernel) rfl (by first | assumption | exact k_vin (N := 6) (n := 6) (by assumption) (by assumption) (by decide)) dX7_citizenOf_83 ?_
      exact k_iret (pc := 84) C rfl (k_fIm (by unfold f_X7_citizenOf; rw [if_neg c5, if_neg c16_0, if_neg c16_1, if_pos c16_2]; try rfl)) dX7_citizenOf_84
    by_cases c16_3 : w = 3
    · skip
      refine k_tabIn (pc := 16) (v := 3) C 85 dX7_citizenOf_16 c16_3 (by decide) (by decide) rfl (by decide) ?_
      refine k_aload_n (pc := 85) C dX7_citizenOf_85 rfl ?_
      refine k_getR (pc := 86) (r := some (8, 9, 0)) C fl_X7_29 k_in7 rfl rfl rfl dX7_citizenOf_86 ?_
      refine k_iload_n (pc := 89) C dX7_citizenOf_89 rfl ?_
      refine k_ialdX (pc := 90) (j := cz.toNatClampNeg) C rfl (by decide +kernel) rfl (by first | assumption | exact k_vin (N := 6) (n := 6) (by assumption) (by assumption) (by decide)) dX7_citizenOf_90 ?_
      exact k_iret (pc := 91) C rfl (k_fIm (by unfold f_X7_citizenOf; rw [if_neg c5, if_neg c16_0, if_neg c16_1, if_neg c16_2, if_pos c16_3]; try rfl)) dX7_citizenOf_91
    by_cases c16_4 : w = 4
    · skip
      refine k_tabIn (pc := 16) (v := 4) C 92 dX7_citizenOf_16 c16_4 (by decide) (by decide) rfl (by decide) ?_
      refine k_aload_n (pc := 92) C dX7_citizenOf_92 rfl ?_
      refine k_getR (pc := 93) (r := some (8, 10, 0)) C fl_X7_32 k_in7 rfl rfl rfl dX7_citizenOf_93 ?_
      refine k_iload_n (pc := 96) C dX7_citizenOf_96 rfl ?_
      refine k_ialdX (pc := 97) (j := cz.toNatClampNeg) C rfl (by decide +kernel) rfl (by first | assumption | exact k_vin (N := 6) (n := 6) (by assumption) (by assumption) (by decide)) dX7_citizenOf_97 ?_
      exact k_iret (pc := 98) C rfl (k_fIm (by unfold f_X7_citizenOf; rw [if_neg c5, if_neg c16_0, if_neg c16_1, if_neg c16_2, if_neg c16_3, if_pos c16_4]; try rfl)) dX7_citizenOf_98
    by_cases c16_5 : w = 5
    · skip
      refine k_tabIn (pc := 16) (v := 5) C 99 dX7_citizenOf_16 c16_5 (by decide) (by decide) rfl (by decide) ?_
      refine k_aload_n (pc := 99) C dX7_citizenOf_99 rfl ?_
      refine k_getR (pc := 100) (r := some (8, 11, 0)) C fl_X7_35 k_in7 rfl rfl rfl dX7_citizenOf_100 ?_
      refine k_iload_n (pc := 103) C dX7_citizenOf_103 rfl ?_
      refine k_ialdX (pc := 104) (j := cz.toNatClampNeg) C rfl (by decide +kernel) rfl (by first | assumption | exact k_vin (N := 6) (n := 6) (by assumption) (by assumption) (by decide)) dX7_citizenOf_104 ?_
      exact k_iret (pc := 105) C rfl (k_fIm (by unfold f_X7_citizenOf; rw [if_neg c5, if_neg c16_0, if_neg c16_1, if_neg c16_2, if_neg c16_3, if_neg c16_4, if_pos c16_5]; try rfl)) dX7_citizenOf_105
    by_cases c16_6 : w = 6
    · skip
      refine k_tabIn (pc := 16) (v := 6) C 106 dX7_citizenOf_16 c16_6 (by decide) (by decide) rfl (by decide) ?_
      refine k_aload_n (pc := 106) C dX7_citizenOf_106 rfl ?_
      refine k_getR (pc := 107) (r := some (8, 12, 0)) C fl_X7_38 k_in7 rfl rfl rfl dX7_citizenOf_107 ?_
      refine k_iload_n (pc := 110) C dX7_citizenOf_110 rfl ?_
      refine k_ialdX (pc := 111) (j := cz.toNatClampNeg) C rfl (by decide +kernel) rfl (by first | assumption | exact k_vin (N := 6) (n := 6) (by assumption) (by assumption) (by decide)) dX7_citizenOf_111 ?_
      exact k_iret (pc := 112) C rfl (k_fIm (by unfold f_X7_citizenOf; rw [if_neg c5, if_neg c16_0, if_neg c16_1, if_neg c16_2, if_neg c16_3, if_neg c16_4, if_neg c16_5, if_pos c16_6]; try rfl)) dX7_citizenOf_112
    by_cases c16_7 : w = 7
    · skip
      refine k_tabIn (pc := 16) (v := 7) C 113 dX7_citizenOf_16 c16_7 (by decide) (by decide) rfl (by decide) ?_
      refine k_aload_n (pc := 113) C dX7_citizenOf_113 rfl ?_
      refine k_iload_n (pc := 114) C dX7_citizenOf_114 rfl ?_
      refine k_call1 (pc := 115) C cv_X7_146 (ct_X7_face (by first | assumption | exact k_vin (N := 6) (n := 6) (by assumption) (by assumption) (by decide))) k_in7 rfl (by decide) rfl (Nat.le_of_ble_eq_true rfl) dX7_citizenOf_115 ?_
      exact k_iret (pc := 118) C rfl (k_fIm (by unfold f_X7_citizenOf; rw [if_neg c5, if_neg c16_0, if_neg c16_1, if_neg c16_2, if_neg c16_3, if_neg c16_4, if_neg c16_5, if_neg c16_6, if_pos c16_7]; try rfl)) dX7_citizenOf_118
    refine k_tabOut (pc := 16) C 119 dX7_citizenOf_16 (k_out 0 7 (fun v h1 h2 => by rcases (show v = 0 ∨ v = 1 ∨ v = 2 ∨ v = 3 ∨ v = 4 ∨ v = 5 ∨ v = 6 ∨ v = 7 by omega) with rfl | rfl | rfl | rfl | rfl | rfl | rfl | rfl <;> first | exact c16_0 | exact c16_1 | exact c16_2 | exact c16_3 | exact c16_4 | exact c16_5 | exact c16_6 | exact c16_7)) (by decide) ?_
    refine k_aload_n (pc := 119) C dX7_citizenOf_119 rfl ?_
    refine k_bipush (pc := 120) (v := (-5)) C dX7_citizenOf_120 (by decide) ?_
    refine k_call1 (pc := 122) C cv_X7_139 (ct_X7_no (k_vd (by decide))) k_in7 rfl (by decide) rfl (Nat.le_of_ble_eq_true rfl) dX7_citizenOf_122 ?_
    exact k_iret (pc := 125) C rfl (k_fIm (by unfold f_X7_citizenOf; rw [if_neg c5, if_neg c16_0, if_neg c16_1, if_neg c16_2, if_neg c16_3, if_neg c16_4, if_neg c16_5, if_neg c16_6, if_neg c16_7]; try rfl)) dX7_citizenOf_125
  · skip
    refine k_aload_n (pc := 8) C dX7_citizenOf_8 rfl ?_
    refine k_bipush (pc := 9) (v := (-5)) C dX7_citizenOf_9 (by decide) ?_
    refine k_call1 (pc := 11) C cv_X7_139 (ct_X7_no (k_vd (by decide))) k_in7 rfl (by decide) rfl (Nat.le_of_ble_eq_true rfl) dX7_citizenOf_11 ?_
    exact k_iret (pc := 14) C rfl (k_fIm (by unfold f_X7_citizenOf; rw [if_pos c5]; try rfl)) dX7_citizenOf_14
def f_X7_beggarOf (mi : MemI) (bg : Int32) (w : Int32) : Int32 × MemI :=
  if (f_X7_isBeggar mi bg) = 0 then ((f_X7_noTen mi (-5)).1, (f_X7_noTen mi (-5)).2)
  else if w = 0 then (mi (8, 13, 0) bg.toNatClampNeg, mi)
    else if w = 1 then (mi (8, 14, 0) bg.toNatClampNeg, mi)
      else if w = 2 then (mi (8, 15, 0) bg.toNatClampNeg, mi)
        else if w = 3 then (mi (8, 16, 0) bg.toNatClampNeg, mi)
          else if w = 4 then (mi (8, 17, 0) bg.toNatClampNeg, mi)
            else ((f_X7_noTen mi (-5)).1, (f_X7_noTen mi (-5)).2)
set_option maxRecDepth 100000 in
set_option maxHeartbeats 4000000 in
theorem ct_X7_beggarOf {nB : Nat} {mi : MemI} {ml : MemL} {bg : Int32} {w : Int32} (hB : mi (7, 0, 0) 1 = nI nB) (h6b : nB ≤ 6) : k_Ct k_KS k_R0 Mt_X7_beggarOf 1 [vR (7, 0, 0), vI bg, vI w] mi ml (k_rt (some (vI (f_X7_beggarOf mi bg w).1)) (f_X7_beggarOf mi bg w).2 ml) := by
  refine k_ofV (L0 := [vR (7, 0, 0), vI bg, vI w]) (by decide +kernel) (Nat.le_of_ble_eq_true rfl) rfl rfl ?_
  intro p l e s m args below meth c D cy ad bs C
  refine k_aload_n (pc := 0) C dX7_beggarOf_0 rfl ?_
  refine k_iload_n (pc := 1) C dX7_beggarOf_1 rfl ?_
  refine k_call1 (pc := 2) C cv_X7_161 ct_X7_isBeggar k_in7 rfl (by decide) rfl (Nat.le_of_ble_eq_true rfl) dX7_beggarOf_2 ?_
  refine k_if_ne (pc := 5) C 15 dX7_beggarOf_5 (by decide) (fun c5 => ?_) (fun c5 => ?_)
  · skip
    have qc5 := vp_mono (isBeggar_in hB h6b c5) h6b
    refine k_iload_n (pc := 15) C dX7_beggarOf_15 rfl ?_
    by_cases c16_0 : w = 0
    · skip
      refine k_tabIn (pc := 16) (v := 0) C 52 dX7_beggarOf_16 c16_0 (by decide) (by decide) rfl (by decide) ?_
      refine k_aload_n (pc := 52) C dX7_beggarOf_52 rfl ?_
      refine k_getR (pc := 53) (r := some (8, 13, 0)) C fl_X7_41 k_in7 rfl rfl rfl dX7_beggarOf_53 ?_
      refine k_iload_n (pc := 56) C dX7_beggarOf_56 rfl ?_
      refine k_ialdX (pc := 57) (j := bg.toNatClampNeg) C rfl (by decide +kernel) rfl (by first | assumption | exact k_vin (N := 6) (n := 6) (by assumption) (by assumption) (by decide)) dX7_beggarOf_57 ?_
      exact k_iret (pc := 58) C rfl (k_fIm (by unfold f_X7_beggarOf; rw [if_neg c5, if_pos c16_0]; try rfl)) dX7_beggarOf_58
    by_cases c16_1 : w = 1
    · skip
      refine k_tabIn (pc := 16) (v := 1) C 59 dX7_beggarOf_16 c16_1 (by decide) (by decide) rfl (by decide) ?_
      refine k_aload_n (pc := 59) C dX7_beggarOf_59 rfl ?_
      refine k_getR (pc := 60) (r := some (8, 14, 0)) C fl_X7_44 k_in7 rfl rfl rfl dX7_beggarOf_60 ?_
      refine k_iload_n (pc := 63) C dX7_beggarOf_63 rfl ?_
      refine k_ialdX (pc := 64) (j := bg.toNatClampNeg) C rfl (by decide +kernel) rfl (by first | assumption | exact k_vin (N := 6) (n := 6) (by assumption) (by assumption) (by decide)) dX7_beggarOf_64 ?_
      exact k_iret (pc := 65) C rfl (k_fIm (by unfold f_X7_beggarOf; rw [if_neg c5, if_neg c16_0, if_pos c16_1]; try rfl)) dX7_beggarOf_65
    by_cases c16_2 : w = 2
    · skip
      refine k_tabIn (pc := 16) (v := 2) C 66 dX7_beggarOf_16 c16_2 (by decide) (by decide) rfl (by decide) ?_
      refine k_aload_n (pc := 66) C dX7_beggarOf_66 rfl ?_
      refine k_getR (pc := 67) (r := some (8, 15, 0)) C fl_X7_47 k_in7 rfl rfl rfl dX7_beggarOf_67 ?_
      refine k_iload_n (pc := 70) C dX7_beggarOf_70 rfl ?_
      refine k_ialdX (pc := 71) (j := bg.toNatClampNeg) C rfl (by decide +kernel) rfl (by first | assumption | exact k_vin (N := 6) (n := 6) (by assumption) (by assumption) (by decide)) dX7_beggarOf_71 ?_
      exact k_iret (pc := 72) C rfl (k_fIm (by unfold f_X7_beggarOf; rw [if_neg c5, if_neg c16_0, if_neg c16_1, if_pos c16_2]; try rfl)) dX7_beggarOf_72
    by_cases c16_3 : w = 3
    · skip
      refine k_tabIn (pc := 16) (v := 3) C 73 dX7_beggarOf_16 c16_3 (by decide) (by decide) rfl (by decide) ?_
      refine k_aload_n (pc := 73) C dX7_beggarOf_73 rfl ?_
      refine k_getR (pc := 74) (r := some (8, 16, 0)) C fl_X7_50 k_in7 rfl rfl rfl dX7_beggarOf_74 ?_
      refine k_iload_n (pc := 77) C dX7_beggarOf_77 rfl ?_
      refine k_ialdX (pc := 78) (j := bg.toNatClampNeg) C rfl (by decide +kernel) rfl (by first | assumption | exact k_vin (N := 6) (n := 6) (by assumption) (by assumption) (by decide)) dX7_beggarOf_78 ?_
      exact k_iret (pc := 79) C rfl (k_fIm (by unfold f_X7_beggarOf; rw [if_neg c5, if_neg c16_0, if_neg c16_1, if_neg c16_2, if_pos c16_3]; try rfl)) dX7_beggarOf_79
    by_cases c16_4 : w = 4
    · skip
      refine k_tabIn (pc := 16) (v := 4) C 80 dX7_beggarOf_16 c16_4 (by decide) (by decide) rfl (by decide) ?_
      refine k_aload_n (pc := 80) C dX7_beggarOf_80 rfl ?_
      refine k_getR (pc := 81) (r := some (8, 17, 0)) C fl_X7_53 k_in7 rfl rfl rfl dX7_beggarOf_81 ?_
      refine k_iload_n (pc := 84) C dX7_beggarOf_84 rfl ?_
      refine k_ialdX (pc := 85) (j := bg.toNatClampNeg) C rfl (by decide +kernel) rfl (by first | assumption | exact k_vin (N := 6) (n := 6) (by assumption) (by assumption) (by decide)) dX7_beggarOf_85 ?_
      exact k_iret (pc := 86) C rfl (k_fIm (by unfold f_X7_beggarOf; rw [if_neg c5, if_neg c16_0, if_neg c16_1, if_neg c16_2, if_neg c16_3, if_pos c16_4]; try rfl)) dX7_beggarOf_86
    refine k_tabOut (pc := 16) C 87 dX7_beggarOf_16 (k_out 0 4 (fun v h1 h2 => by rcases (show v = 0 ∨ v = 1 ∨ v = 2 ∨ v = 3 ∨ v = 4 by omega) with rfl | rfl | rfl | rfl | rfl <;> first | exact c16_0 | exact c16_1 | exact c16_2 | exact c16_3 | exact c16_4)) (by decide) ?_
    refine k_aload_n (pc := 87) C dX7_beggarOf_87 rfl ?_
    refine k_bipush (pc := 88) (v := (-5)) C dX7_beggarOf_88 (by decide) ?_
    refine k_call1 (pc := 90) C cv_X7_164 (ct_X7_noTen (k_vd (by decide))) k_in7 rfl (by decide) rfl (Nat.le_of_ble_eq_true rfl) dX7_beggarOf_90 ?_
    exact k_iret (pc := 93) C rfl (k_fIm (by unfold f_X7_beggarOf; rw [if_neg c5, if_neg c16_0, if_neg c16_1, if_neg c16_2, if_neg c16_3, if_neg c16_4]; try rfl)) dX7_beggarOf_93
  · skip
    refine k_aload_n (pc := 8) C dX7_beggarOf_8 rfl ?_
    refine k_bipush (pc := 9) (v := (-5)) C dX7_beggarOf_9 (by decide) ?_
    refine k_call1 (pc := 11) C cv_X7_164 (ct_X7_noTen (k_vd (by decide))) k_in7 rfl (by decide) rfl (Nat.le_of_ble_eq_true rfl) dX7_beggarOf_11 ?_
    exact k_iret (pc := 14) C rfl (k_fIm (by unfold f_X7_beggarOf; rw [if_pos c5]; try rfl)) dX7_beggarOf_14
def f_X7_tell (mi : MemI) (cz : Int32) (w : Int32) (v : Int32) : Int32 × MemI :=
  if (f_X7_isCitizen mi cz) = 0 then ((f_X7_no mi (-1)).1, (f_X7_no mi (-1)).2)
  else if w < 0 then ((f_X7_no mi (-6)).1, (f_X7_no mi (-6)).2)
    else if 3 < w then ((f_X7_no mi (-6)).1, (f_X7_no mi (-6)).2)
      else if w = 0 then if (f_X7_isFrom v 0 1) = 0 then ((f_X7_no mi (-6)).1, (f_X7_no mi (-6)).2)
          else (mi (8, 12, 0) cz.toNatClampNeg, k_ui mi (8, 12, 0) cz.toNatClampNeg v)
        else if w = 2 then if (f_X7_isFrom v 0 20) = 0 then ((f_X7_no mi (-6)).1, (f_X7_no mi (-6)).2)
            else if w = 1 then (mi (8, 10, 0) cz.toNatClampNeg, k_ui mi (8, 10, 0) cz.toNatClampNeg v)
              else (mi (8, 9, 0) cz.toNatClampNeg, k_ui mi (8, 9, 0) cz.toNatClampNeg v)
          else if (f_X7_isFrom v 0 99) = 0 then ((f_X7_no mi (-6)).1, (f_X7_no mi (-6)).2)
            else if w = 1 then (mi (8, 10, 0) cz.toNatClampNeg, k_ui mi (8, 10, 0) cz.toNatClampNeg v)
              else (mi (8, 8, 0) cz.toNatClampNeg, k_ui mi (8, 8, 0) cz.toNatClampNeg v)
set_option maxRecDepth 100000 in
set_option maxHeartbeats 4000000 in
theorem ct_X7_tell {nC : Nat} {mi : MemI} {ml : MemL} {cz : Int32} {w : Int32} {v : Int32} (hC : mi (7, 0, 0) 0 = nI nC) (h6 : nC ≤ 6) : k_Ct k_KS k_R0 Mt_X7_tell 1 [vR (7, 0, 0), vI cz, vI w, vI v] mi ml (k_rt (some (vI (f_X7_tell mi cz w v).1)) (f_X7_tell mi cz w v).2 ml) := by
  refine k_ofV (L0 := [vR (7, 0, 0), vI cz, vI w, vI v, vU]) (by decide +kernel) (Nat.le_of_ble_eq_true rfl) rfl rfl ?_
  intro p l e s m args below meth c D cy ad bs C
  refine k_aload_n (pc := 0) C dX7_tell_0 rfl ?_
  refine k_iload_n (pc := 1) C dX7_tell_1 rfl ?_
  refine k_call1 (pc := 2) C cv_X7_143 ct_X7_isCitizen k_in7 rfl (by decide) rfl (Nat.le_of_ble_eq_true rfl) dX7_tell_2 ?_
  refine k_if_ne (pc := 5) C 14 dX7_tell_5 (by decide) (fun c5 => ?_) (fun c5 => ?_)
  · skip
    have qc5 := vp_mono (isCitizen_in hC h6 c5) h6
    refine k_iload_n (pc := 14) C dX7_tell_14 rfl ?_
    refine k_if_lt (pc := 15) C 52 dX7_tell_15 (by decide) (fun c15 => ?_) (fun c15 => ?_)
    · skip
      refine k_aload_n (pc := 52) C dX7_tell_52 rfl ?_
      refine k_bipush (pc := 53) (v := (-6)) C dX7_tell_53 (by decide) ?_
      refine k_call1 (pc := 55) C cv_X7_139 (ct_X7_no (k_vd (by decide))) k_in7 rfl (by decide) rfl (Nat.le_of_ble_eq_true rfl) dX7_tell_55 ?_
      exact k_iret (pc := 58) C rfl (k_fIm (by unfold f_X7_tell; rw [if_neg c5, if_pos c15]; try rfl)) dX7_tell_58
    · skip
      refine k_iload_n (pc := 18) C dX7_tell_18 rfl ?_
      refine k_iconst (pc := 19) (v := 3) C dX7_tell_19 (by decide) ?_
      refine k_icmp_gt (pc := 20) C 52 dX7_tell_20 (by decide) (fun c20 => ?_) (fun c20 => ?_)
      · skip
        refine k_aload_n (pc := 52) C dX7_tell_52 rfl ?_
        refine k_bipush (pc := 53) (v := (-6)) C dX7_tell_53 (by decide) ?_
        refine k_call1 (pc := 55) C cv_X7_139 (ct_X7_no (k_vd (by decide))) k_in7 rfl (by decide) rfl (Nat.le_of_ble_eq_true rfl) dX7_tell_55 ?_
        exact k_iret (pc := 58) C rfl (k_fIm (by unfold f_X7_tell; rw [if_neg c5, if_neg c15, if_pos c20]; try rfl)) dX7_tell_58
      · skip
        refine k_aload_n (pc := 23) C dX7_tell_23 rfl ?_
        refine k_iload_n (pc := 24) C dX7_tell_24 rfl ?_
        refine k_iconst (pc := 25) (v := 0) C dX7_tell_25 (by decide) ?_
        refine k_iload_n (pc := 26) C dX7_tell_26 rfl ?_
        refine k_if_ne (pc := 27) C 34 dX7_tell_27 (by decide) (fun c27 => ?_) (fun c27 => ?_)
        · skip
          refine k_iload_n (pc := 34) C dX7_tell_34 rfl ?_
          refine k_iconst (pc := 35) (v := 2) C dX7_tell_35 (by decide) ?_
          refine k_icmp_ne (pc := 36) C 44 dX7_tell_36 (by decide) (fun c36 => ?_) (fun c36 => ?_)
          · skip
            refine k_bipush (pc := 44) (v := 99) C dX7_tell_44 (by decide) ?_
            refine k_call3 (pc := 46) C cv_X7_149 ct_X7_isFrom k_in7 rfl (by decide) rfl (Nat.le_of_ble_eq_true rfl) dX7_tell_46 ?_
            refine k_if_ne (pc := 49) C 59 dX7_tell_49 (by decide) (fun c49 => ?_) (fun c49 => ?_)
            · skip
              refine k_iload_n (pc := 59) C dX7_tell_59 rfl ?_
              refine k_if_neT (pc := 60) C 72 dX7_tell_60 (by decide) c27 ?_
              refine k_iload_n (pc := 72) C dX7_tell_72 rfl ?_
              refine k_iconst (pc := 73) (v := 1) C dX7_tell_73 (by decide) ?_
              refine k_icmp_ne (pc := 74) C 86 dX7_tell_74 (by decide) (fun c74 => ?_) (fun c74 => ?_)
              · skip
                refine k_iload_n (pc := 86) C dX7_tell_86 rfl ?_
                refine k_iconst (pc := 87) (v := 2) C dX7_tell_87 (by decide) ?_
                refine k_icmp_neT (pc := 88) C 100 dX7_tell_88 (by decide) c36 ?_
                refine k_aload_n (pc := 100) C dX7_tell_100 rfl ?_
                refine k_getR (pc := 101) (r := some (8, 8, 0)) C fl_X7_26 k_in7 rfl rfl rfl dX7_tell_101 ?_
                refine k_iload_n (pc := 104) C dX7_tell_104 rfl ?_
                refine k_ialdX (pc := 105) (j := cz.toNatClampNeg) C rfl (by decide +kernel) rfl (by first | assumption | exact k_vin (N := 6) (n := 6) (by assumption) (by assumption) (by decide)) dX7_tell_105 ?_
                refine k_istore_4 (pc := 106) C dX7_tell_106 rfl ?_
                refine k_iload_n (pc := 108) C dX7_tell_108 rfl ?_
                refine k_if_neT (pc := 109) C 122 dX7_tell_109 (by decide) c27 ?_
                refine k_iload_n (pc := 122) C dX7_tell_122 rfl ?_
                refine k_iconst (pc := 123) (v := 1) C dX7_tell_123 (by decide) ?_
                refine k_icmp_neT (pc := 124) C 137 dX7_tell_124 (by decide) c74 ?_
                refine k_iload_n (pc := 137) C dX7_tell_137 rfl ?_
                refine k_iconst (pc := 138) (v := 2) C dX7_tell_138 (by decide) ?_
                refine k_icmp_neT (pc := 139) C 152 dX7_tell_139 (by decide) c36 ?_
                refine k_aload_n (pc := 152) C dX7_tell_152 rfl ?_
                refine k_getR (pc := 153) (r := some (8, 8, 0)) C fl_X7_26 k_in7 rfl rfl rfl dX7_tell_153 ?_
                refine k_iload_n (pc := 156) C dX7_tell_156 rfl ?_
                refine k_iload_n (pc := 157) C dX7_tell_157 rfl ?_
                refine k_iastX (pc := 158) (j := cz.toNatClampNeg) C rfl (by decide +kernel) rfl (by first | assumption | exact k_vin (N := 6) (n := 6) (by assumption) (by assumption) (by decide)) dX7_tell_158 ?_
                refine k_iload (pc := 159) C dX7_tell_159 rfl ?_
                exact k_iret (pc := 161) C rfl (k_fIm (by unfold f_X7_tell; rw [if_neg c5, if_neg c15, if_neg c20, if_neg c27, if_neg c36, if_neg c49, if_neg c74]; try rfl)) dX7_tell_161
              · skip
                refine k_aload_n (pc := 77) C dX7_tell_77 rfl ?_
                refine k_getR (pc := 78) (r := some (8, 10, 0)) C fl_X7_32 k_in7 rfl rfl rfl dX7_tell_78 ?_
                refine k_iload_n (pc := 81) C dX7_tell_81 rfl ?_
                refine k_ialdX (pc := 82) (j := cz.toNatClampNeg) C rfl (by decide +kernel) rfl (by first | assumption | exact k_vin (N := 6) (n := 6) (by assumption) (by assumption) (by decide)) dX7_tell_82 ?_
                refine k_goto (pc := 83) C 106 dX7_tell_83 (by decide) ?_
                refine k_istore_4 (pc := 106) C dX7_tell_106 rfl ?_
                refine k_iload_n (pc := 108) C dX7_tell_108 rfl ?_
                refine k_if_neT (pc := 109) C 122 dX7_tell_109 (by decide) c27 ?_
                refine k_iload_n (pc := 122) C dX7_tell_122 rfl ?_
                refine k_iconst (pc := 123) (v := 1) C dX7_tell_123 (by decide) ?_
                refine k_icmp_neF (pc := 124) C 137 dX7_tell_124 (by decide) c74 ?_
                refine k_aload_n (pc := 127) C dX7_tell_127 rfl ?_
                refine k_getR (pc := 128) (r := some (8, 10, 0)) C fl_X7_32 k_in7 rfl rfl rfl dX7_tell_128 ?_
                refine k_iload_n (pc := 131) C dX7_tell_131 rfl ?_
                refine k_iload_n (pc := 132) C dX7_tell_132 rfl ?_
                refine k_iastX (pc := 133) (j := cz.toNatClampNeg) C rfl (by decide +kernel) rfl (by first | assumption | exact k_vin (N := 6) (n := 6) (by assumption) (by assumption) (by decide)) dX7_tell_133 ?_
                refine k_goto (pc := 134) C 159 dX7_tell_134 (by decide) ?_
                refine k_iload (pc := 159) C dX7_tell_159 rfl ?_
                exact k_iret (pc := 161) C rfl (k_fIm (by unfold f_X7_tell; rw [if_neg c5, if_neg c15, if_neg c20, if_neg c27, if_neg c36, if_neg c49, if_pos c74]; try rfl)) dX7_tell_161
            · skip
              refine k_aload_n (pc := 52) C dX7_tell_52 rfl ?_
              refine k_bipush (pc := 53) (v := (-6)) C dX7_tell_53 (by decide) ?_
              refine k_call1 (pc := 55) C cv_X7_139 (ct_X7_no (k_vd (by decide))) k_in7 rfl (by decide) rfl (Nat.le_of_ble_eq_true rfl) dX7_tell_55 ?_
              exact k_iret (pc := 58) C rfl (k_fIm (by unfold f_X7_tell; rw [if_neg c5, if_neg c15, if_neg c20, if_neg c27, if_neg c36, if_pos c49]; try rfl)) dX7_tell_58
          · skip
            refine k_bipush (pc := 39) (v := 20) C dX7_tell_39 (by decide) ?_
            refine k_goto (pc := 41) C 46 dX7_tell_41 (by decide) ?_
            refine k_call3 (pc := 46) C cv_X7_149 ct_X7_isFrom k_in7 rfl (by decide) rfl (Nat.le_of_ble_eq_true rfl) dX7_tell_46 ?_
            refine k_if_ne (pc := 49) C 59 dX7_tell_49 (by decide) (fun c49 => ?_) (fun c49 => ?_)
            · skip
              refine k_iload_n (pc := 59) C dX7_tell_59 rfl ?_
              refine k_if_neT (pc := 60) C 72 dX7_tell_60 (by decide) c27 ?_
              refine k_iload_n (pc := 72) C dX7_tell_72 rfl ?_
              refine k_iconst (pc := 73) (v := 1) C dX7_tell_73 (by decide) ?_
              refine k_icmp_ne (pc := 74) C 86 dX7_tell_74 (by decide) (fun c74 => ?_) (fun c74 => ?_)
              · skip
                refine k_iload_n (pc := 86) C dX7_tell_86 rfl ?_
                refine k_iconst (pc := 87) (v := 2) C dX7_tell_87 (by decide) ?_
                refine k_icmp_neF (pc := 88) C 100 dX7_tell_88 (by decide) c36 ?_
                refine k_aload_n (pc := 91) C dX7_tell_91 rfl ?_
                refine k_getR (pc := 92) (r := some (8, 9, 0)) C fl_X7_29 k_in7 rfl rfl rfl dX7_tell_92 ?_
                refine k_iload_n (pc := 95) C dX7_tell_95 rfl ?_
                refine k_ialdX (pc := 96) (j := cz.toNatClampNeg) C rfl (by decide +kernel) rfl (by first | assumption | exact k_vin (N := 6) (n := 6) (by assumption) (by assumption) (by decide)) dX7_tell_96 ?_
                refine k_goto (pc := 97) C 106 dX7_tell_97 (by decide) ?_
                refine k_istore_4 (pc := 106) C dX7_tell_106 rfl ?_
                refine k_iload_n (pc := 108) C dX7_tell_108 rfl ?_
                refine k_if_neT (pc := 109) C 122 dX7_tell_109 (by decide) c27 ?_
                refine k_iload_n (pc := 122) C dX7_tell_122 rfl ?_
                refine k_iconst (pc := 123) (v := 1) C dX7_tell_123 (by decide) ?_
                refine k_icmp_neT (pc := 124) C 137 dX7_tell_124 (by decide) c74 ?_
                refine k_iload_n (pc := 137) C dX7_tell_137 rfl ?_
                refine k_iconst (pc := 138) (v := 2) C dX7_tell_138 (by decide) ?_
                refine k_icmp_neF (pc := 139) C 152 dX7_tell_139 (by decide) c36 ?_
                refine k_aload_n (pc := 142) C dX7_tell_142 rfl ?_
                refine k_getR (pc := 143) (r := some (8, 9, 0)) C fl_X7_29 k_in7 rfl rfl rfl dX7_tell_143 ?_
                refine k_iload_n (pc := 146) C dX7_tell_146 rfl ?_
                refine k_iload_n (pc := 147) C dX7_tell_147 rfl ?_
                refine k_iastX (pc := 148) (j := cz.toNatClampNeg) C rfl (by decide +kernel) rfl (by first | assumption | exact k_vin (N := 6) (n := 6) (by assumption) (by assumption) (by decide)) dX7_tell_148 ?_
                refine k_goto (pc := 149) C 159 dX7_tell_149 (by decide) ?_
                refine k_iload (pc := 159) C dX7_tell_159 rfl ?_
                exact k_iret (pc := 161) C rfl (k_fIm (by unfold f_X7_tell; rw [if_neg c5, if_neg c15, if_neg c20, if_neg c27, if_pos c36, if_neg c49, if_neg c74]; try rfl)) dX7_tell_161
              · skip
                refine k_aload_n (pc := 77) C dX7_tell_77 rfl ?_
                refine k_getR (pc := 78) (r := some (8, 10, 0)) C fl_X7_32 k_in7 rfl rfl rfl dX7_tell_78 ?_
                refine k_iload_n (pc := 81) C dX7_tell_81 rfl ?_
                refine k_ialdX (pc := 82) (j := cz.toNatClampNeg) C rfl (by decide +kernel) rfl (by first | assumption | exact k_vin (N := 6) (n := 6) (by assumption) (by assumption) (by decide)) dX7_tell_82 ?_
                refine k_goto (pc := 83) C 106 dX7_tell_83 (by decide) ?_
                refine k_istore_4 (pc := 106) C dX7_tell_106 rfl ?_
                refine k_iload_n (pc := 108) C dX7_tell_108 rfl ?_
                refine k_if_neT (pc := 109) C 122 dX7_tell_109 (by decide) c27 ?_
                refine k_iload_n (pc := 122) C dX7_tell_122 rfl ?_
                refine k_iconst (pc := 123) (v := 1) C dX7_tell_123 (by decide) ?_
                refine k_icmp_neF (pc := 124) C 137 dX7_tell_124 (by decide) c74 ?_
                refine k_aload_n (pc := 127) C dX7_tell_127 rfl ?_
                refine k_getR (pc := 128) (r := some (8, 10, 0)) C fl_X7_32 k_in7 rfl rfl rfl dX7_tell_128 ?_
                refine k_iload_n (pc := 131) C dX7_tell_131 rfl ?_
                refine k_iload_n (pc := 132) C dX7_tell_132 rfl ?_
                refine k_iastX (pc := 133) (j := cz.toNatClampNeg) C rfl (by decide +kernel) rfl (by first | assumption | exact k_vin (N := 6) (n := 6) (by assumption) (by assumption) (by decide)) dX7_tell_133 ?_
                refine k_goto (pc := 134) C 159 dX7_tell_134 (by decide) ?_
                refine k_iload (pc := 159) C dX7_tell_159 rfl ?_
                exact k_iret (pc := 161) C rfl (k_fIm (by unfold f_X7_tell; rw [if_neg c5, if_neg c15, if_neg c20, if_neg c27, if_pos c36, if_neg c49, if_pos c74]; try rfl)) dX7_tell_161
            · skip
              refine k_aload_n (pc := 52) C dX7_tell_52 rfl ?_
              refine k_bipush (pc := 53) (v := (-6)) C dX7_tell_53 (by decide) ?_
              refine k_call1 (pc := 55) C cv_X7_139 (ct_X7_no (k_vd (by decide))) k_in7 rfl (by decide) rfl (Nat.le_of_ble_eq_true rfl) dX7_tell_55 ?_
              exact k_iret (pc := 58) C rfl (k_fIm (by unfold f_X7_tell; rw [if_neg c5, if_neg c15, if_neg c20, if_neg c27, if_pos c36, if_pos c49]; try rfl)) dX7_tell_58
        · skip
          refine k_iconst (pc := 30) (v := 1) C dX7_tell_30 (by decide) ?_
          refine k_goto (pc := 31) C 46 dX7_tell_31 (by decide) ?_
          refine k_call3 (pc := 46) C cv_X7_149 ct_X7_isFrom k_in7 rfl (by decide) rfl (Nat.le_of_ble_eq_true rfl) dX7_tell_46 ?_
          refine k_if_ne (pc := 49) C 59 dX7_tell_49 (by decide) (fun c49 => ?_) (fun c49 => ?_)
          · skip
            refine k_iload_n (pc := 59) C dX7_tell_59 rfl ?_
            refine k_if_neF (pc := 60) C 72 dX7_tell_60 (by decide) c27 ?_
            refine k_aload_n (pc := 63) C dX7_tell_63 rfl ?_
            refine k_getR (pc := 64) (r := some (8, 12, 0)) C fl_X7_38 k_in7 rfl rfl rfl dX7_tell_64 ?_
            refine k_iload_n (pc := 67) C dX7_tell_67 rfl ?_
            refine k_ialdX (pc := 68) (j := cz.toNatClampNeg) C rfl (by decide +kernel) rfl (by first | assumption | exact k_vin (N := 6) (n := 6) (by assumption) (by assumption) (by decide)) dX7_tell_68 ?_
            refine k_goto (pc := 69) C 106 dX7_tell_69 (by decide) ?_
            refine k_istore_4 (pc := 106) C dX7_tell_106 rfl ?_
            refine k_iload_n (pc := 108) C dX7_tell_108 rfl ?_
            refine k_if_neF (pc := 109) C 122 dX7_tell_109 (by decide) c27 ?_
            refine k_aload_n (pc := 112) C dX7_tell_112 rfl ?_
            refine k_getR (pc := 113) (r := some (8, 12, 0)) C fl_X7_38 k_in7 rfl rfl rfl dX7_tell_113 ?_
            refine k_iload_n (pc := 116) C dX7_tell_116 rfl ?_
            refine k_iload_n (pc := 117) C dX7_tell_117 rfl ?_
            refine k_iastX (pc := 118) (j := cz.toNatClampNeg) C rfl (by decide +kernel) rfl (by first | assumption | exact k_vin (N := 6) (n := 6) (by assumption) (by assumption) (by decide)) dX7_tell_118 ?_
            refine k_goto (pc := 119) C 159 dX7_tell_119 (by decide) ?_
            refine k_iload (pc := 159) C dX7_tell_159 rfl ?_
            exact k_iret (pc := 161) C rfl (k_fIm (by unfold f_X7_tell; rw [if_neg c5, if_neg c15, if_neg c20, if_pos c27, if_neg c49]; try rfl)) dX7_tell_161
          · skip
            refine k_aload_n (pc := 52) C dX7_tell_52 rfl ?_
            refine k_bipush (pc := 53) (v := (-6)) C dX7_tell_53 (by decide) ?_
            refine k_call1 (pc := 55) C cv_X7_139 (ct_X7_no (k_vd (by decide))) k_in7 rfl (by decide) rfl (Nat.le_of_ble_eq_true rfl) dX7_tell_55 ?_
            exact k_iret (pc := 58) C rfl (k_fIm (by unfold f_X7_tell; rw [if_neg c5, if_neg c15, if_neg c20, if_pos c27, if_pos c49]; try rfl)) dX7_tell_58
  · skip
    refine k_aload_n (pc := 8) C dX7_tell_8 rfl ?_
    refine k_iconst (pc := 9) (v := (-1)) C dX7_tell_9 (by decide) ?_
    refine k_call1 (pc := 10) C cv_X7_139 (ct_X7_no (k_vd (by decide))) k_in7 rfl (by decide) rfl (Nat.le_of_ble_eq_true rfl) dX7_tell_10 ?_
    exact k_iret (pc := 13) C rfl (k_fIm (by unfold f_X7_tell; rw [if_pos c5]; try rfl)) dX7_tell_13
