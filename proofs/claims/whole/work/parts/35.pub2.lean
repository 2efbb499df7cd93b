/-! BeggarsChoose: the public methods, second half -/
def f_X6_copy (mi : MemI) (ml : MemL) (p0 : Int32) (q0 : Int32) (x : Int32) (y : Int32) (n : Int32) : Int32 × MemI × MemL :=
  if f_X6_shelfAt p0 < 8 then if f_X6_shelfAt q0 < 8 then if (f_X5_hasCitizen mi (f_X6_shelfAt p0)) = 0 then if (f_X5_hasCitizen mi (f_X6_shelfAt q0)) = 0 then if (f_X5_differsInSort mi (f_X6_shelfAt p0) (f_X6_shelfAt q0)) = 0 then if (f_X5_hasRow mi (f_X6_shelfAt p0)) = 0 then ((f_X6_refuse mi 0 3).1, (f_X6_refuse mi 0 3).2, ml)
            else if (f_X5_hasRow mi (f_X6_shelfAt q0)) = 0 then ((f_X6_refuse mi 0 3).1, (f_X6_refuse mi 0 3).2, ml)
              else if 0 ≤ n then if (f_X5_hasStretch mi (f_X6_shelfAt p0) x n) = 0 then ((f_X6_refuse mi 0 5).1, (f_X6_refuse mi 0 5).2, ml)
                  else if (f_X5_hasStretch mi (f_X6_shelfAt q0) y n) = 0 then ((f_X6_refuse mi 0 5).1, (f_X6_refuse mi 0 5).2, ml)
                    else (1, mi, f_X5_takeElements mi ml (f_X6_shelfAt q0) (f_X6_shelfAt p0) x y n)
                else ((f_X6_refuse mi 0 4).1, (f_X6_refuse mi 0 4).2, ml)
          else ((f_X6_refuse mi 0 2).1, (f_X6_refuse mi 0 2).2, ml)
        else ((f_X6_refuse mi 0 2).1, (f_X6_refuse mi 0 2).2, ml)
      else ((f_X6_refuse mi 0 2).1, (f_X6_refuse mi 0 2).2, ml)
    else ((f_X6_refuse mi 0 1).1, (f_X6_refuse mi 0 1).2, ml)
  else if f_X6_shelfAt q0 < 8 then ((f_X6_refuse mi 0 1).1, (f_X6_refuse mi 0 1).2, ml)
    else ((f_X6_refuse mi 0 1).1, (f_X6_refuse mi 0 1).2, ml)
set_option maxRecDepth 100000 in
set_option maxHeartbeats 4000000 in
theorem ct_X6_copy {mi : MemI} {ml : MemL} {p0 : Int32} {q0 : Int32} {x : Int32} {y : Int32} {n : Int32} (hSh : ∀ i, i < 8 → ∃ len : Nat, len ≤ 160 ∧ mi (5, 0, i) 2 = nI len) : k_Ct k_KS k_R0 Mt_X6_copy 2 [vR (6, 0, 0), vI p0, vI q0, vI x, vI y, vI n] mi ml (k_rt (some (vI (f_X6_copy mi ml p0 q0 x y n).1)) (f_X6_copy mi ml p0 q0 x y n).2.1 (f_X6_copy mi ml p0 q0 x y n).2.2) := by
  refine k_ofV (L0 := [vR (6, 0, 0), vI p0, vI q0, vI x, vI y, vI n, vU, vU]) (by decide +kernel) (Nat.le_of_ble_eq_true rfl) rfl rfl ?_
  intro p l e s m args below meth c D cy ad bs C
  refine k_aload_n (pc := 0) C dX6_copy_0 rfl ?_
  refine k_iload_n (pc := 1) C dX6_copy_1 rfl ?_
  by_cases c2 : f_X6_shelfAt p0 < 8
  · skip
    refine k_call1 (pc := 2) C cv_X6_47 (ct_X6_shelfAt_s c2) k_in6 rfl (by decide) rfl (Nat.le_of_ble_eq_true rfl) dX6_copy_2 ?_
    refine k_astore_6 (pc := 5) C dX6_copy_5 rfl ?_
    refine k_aload_n (pc := 7) C dX6_copy_7 rfl ?_
    refine k_iload_n (pc := 8) C dX6_copy_8 rfl ?_
    by_cases c9 : f_X6_shelfAt q0 < 8
    · skip
      refine k_call1 (pc := 9) C cv_X6_47 (ct_X6_shelfAt_s c9) k_in6 rfl (by decide) rfl (Nat.le_of_ble_eq_true rfl) dX6_copy_9 ?_
      refine k_astore_7 (pc := 12) C dX6_copy_12 rfl ?_
      refine k_aload (pc := 14) C dX6_copy_14 rfl ?_
      refine k_ifnullR (pc := 16) C dX6_copy_16 ?_
      refine k_aload (pc := 19) C dX6_copy_19 rfl ?_
      refine k_ifnonnullR (pc := 21) C 31 dX6_copy_21 (by decide) ?_
      refine k_aload (pc := 31) C dX6_copy_31 rfl ?_
      refine k_call0 (pc := 33) C cv_X6_71 (ct_X5_hasCitizen c2) (k_in5 c2) rfl (by decide) rfl (Nat.le_of_ble_eq_true rfl) dX6_copy_33 ?_
      refine k_if_ne (pc := 36) C 57 dX6_copy_36 (by decide) (fun c36 => ?_) (fun c36 => ?_)
      · skip
        refine k_aload_n (pc := 57) C dX6_copy_57 rfl ?_
        refine k_iconst (pc := 58) (v := 0) C dX6_copy_58 (by decide) ?_
        refine k_iconst (pc := 59) (v := 2) C dX6_copy_59 (by decide) ?_
        refine k_call2 (pc := 60) C cv_X6_51 ct_X6_refuse k_in6 rfl (by decide) rfl (Nat.le_of_ble_eq_true rfl) dX6_copy_60 ?_
        exact k_iret (pc := 63) C rfl (k_fIml (by unfold f_X6_copy; rw [if_pos c2, if_pos c9, if_neg c36]; try rfl)) dX6_copy_63
      · skip
        refine k_aload (pc := 39) C dX6_copy_39 rfl ?_
        refine k_call0 (pc := 41) C cv_X6_71 (ct_X5_hasCitizen c9) (k_in5 c9) rfl (by decide) rfl (Nat.le_of_ble_eq_true rfl) dX6_copy_41 ?_
        refine k_if_ne (pc := 44) C 57 dX6_copy_44 (by decide) (fun c44 => ?_) (fun c44 => ?_)
        · skip
          refine k_aload_n (pc := 57) C dX6_copy_57 rfl ?_
          refine k_iconst (pc := 58) (v := 0) C dX6_copy_58 (by decide) ?_
          refine k_iconst (pc := 59) (v := 2) C dX6_copy_59 (by decide) ?_
          refine k_call2 (pc := 60) C cv_X6_51 ct_X6_refuse k_in6 rfl (by decide) rfl (Nat.le_of_ble_eq_true rfl) dX6_copy_60 ?_
          exact k_iret (pc := 63) C rfl (k_fIml (by unfold f_X6_copy; rw [if_pos c2, if_pos c9, if_pos c36, if_neg c44]; try rfl)) dX6_copy_63
        · skip
          refine k_aload (pc := 47) C dX6_copy_47 rfl ?_
          refine k_aload (pc := 49) C dX6_copy_49 rfl ?_
          refine k_call1 (pc := 51) C cv_X6_75 (ct_X5_differsInSort c2 c9) (k_in5 c2) rfl (by decide) rfl (Nat.le_of_ble_eq_true rfl) dX6_copy_51 ?_
          refine k_if_eq (pc := 54) C 64 dX6_copy_54 (by decide) (fun c54 => ?_) (fun c54 => ?_)
          · skip
            refine k_aload (pc := 64) C dX6_copy_64 rfl ?_
            refine k_call0 (pc := 66) C cv_X6_79 (ct_X5_hasRow c2) (k_in5 c2) rfl (by decide) rfl (Nat.le_of_ble_eq_true rfl) dX6_copy_66 ?_
            refine k_if_eq (pc := 69) C 80 dX6_copy_69 (by decide) (fun c69 => ?_) (fun c69 => ?_)
            · skip
              refine k_aload_n (pc := 80) C dX6_copy_80 rfl ?_
              refine k_iconst (pc := 81) (v := 0) C dX6_copy_81 (by decide) ?_
              refine k_iconst (pc := 82) (v := 3) C dX6_copy_82 (by decide) ?_
              refine k_call2 (pc := 83) C cv_X6_51 ct_X6_refuse k_in6 rfl (by decide) rfl (Nat.le_of_ble_eq_true rfl) dX6_copy_83 ?_
              exact k_iret (pc := 86) C rfl (k_fIml (by unfold f_X6_copy; rw [if_pos c2, if_pos c9, if_pos c36, if_pos c44, if_pos c54, if_pos c69]; try rfl)) dX6_copy_86
            · skip
              refine k_aload (pc := 72) C dX6_copy_72 rfl ?_
              refine k_call0 (pc := 74) C cv_X6_79 (ct_X5_hasRow c9) (k_in5 c9) rfl (by decide) rfl (Nat.le_of_ble_eq_true rfl) dX6_copy_74 ?_
              refine k_if_ne (pc := 77) C 87 dX6_copy_77 (by decide) (fun c77 => ?_) (fun c77 => ?_)
              · skip
                refine k_iload (pc := 87) C dX6_copy_87 rfl ?_
                refine k_if_ge (pc := 89) C 99 dX6_copy_89 (by decide) (fun c89 => ?_) (fun c89 => ?_)
                · skip
                  refine k_aload (pc := 99) C dX6_copy_99 rfl ?_
                  refine k_iload_n (pc := 101) C dX6_copy_101 rfl ?_
                  refine k_iload (pc := 102) C dX6_copy_102 rfl ?_
                  refine k_call2 (pc := 104) C cv_X6_82 (ct_X5_hasStretch c2) (k_in5 c2) rfl (by decide) rfl (Nat.le_of_ble_eq_true rfl) dX6_copy_104 ?_
                  refine k_if_eq (pc := 107) C 122 dX6_copy_107 (by decide) (fun c107 => ?_) (fun c107 => ?_)
                  · skip
                    refine k_aload_n (pc := 122) C dX6_copy_122 rfl ?_
                    refine k_iconst (pc := 123) (v := 0) C dX6_copy_123 (by decide) ?_
                    refine k_iconst (pc := 124) (v := 5) C dX6_copy_124 (by decide) ?_
                    refine k_call2 (pc := 125) C cv_X6_51 ct_X6_refuse k_in6 rfl (by decide) rfl (Nat.le_of_ble_eq_true rfl) dX6_copy_125 ?_
                    exact k_iret (pc := 128) C rfl (k_fIml (by unfold f_X6_copy; rw [if_pos c2, if_pos c9, if_pos c36, if_pos c44, if_pos c54, if_neg c69, if_neg c77, if_pos c89, if_pos c107]; try rfl)) dX6_copy_128
                  · skip
                    refine k_aload (pc := 110) C dX6_copy_110 rfl ?_
                    refine k_iload (pc := 112) C dX6_copy_112 rfl ?_
                    refine k_iload (pc := 114) C dX6_copy_114 rfl ?_
                    refine k_call2 (pc := 116) C cv_X6_82 (ct_X5_hasStretch c9) (k_in5 c9) rfl (by decide) rfl (Nat.le_of_ble_eq_true rfl) dX6_copy_116 ?_
                    refine k_if_ne (pc := 119) C 129 dX6_copy_119 (by decide) (fun c119 => ?_) (fun c119 => ?_)
                    · skip
                      refine k_aload (pc := 129) C dX6_copy_129 rfl ?_
                      refine k_aload (pc := 131) C dX6_copy_131 rfl ?_
                      refine k_iload_n (pc := 133) C dX6_copy_133 rfl ?_
                      refine k_iload (pc := 134) C dX6_copy_134 rfl ?_
                      refine k_iload (pc := 136) C dX6_copy_136 rfl ?_
                      obtain ⟨la, hla, hlb⟩ := hSh _ c2
                      obtain ⟨lc, hlc, hld⟩ := hSh _ c9
                      refine k_callv4 (pc := 138) C cv_X6_86 (ct_X5_takeElements c9 c2 (by assumption) (by assumption) (by assumption) (by assumption)) (k_in5 c9) rfl (by decide) rfl (Nat.le_of_ble_eq_true rfl) dX6_copy_138 ?_
                      refine k_iconst (pc := 141) (v := 1) C dX6_copy_141 (by decide) ?_
                      exact k_iret (pc := 142) C rfl (k_fIml (by unfold f_X6_copy; rw [if_pos c2, if_pos c9, if_pos c36, if_pos c44, if_pos c54, if_neg c69, if_neg c77, if_pos c89, if_neg c107, if_neg c119]; try rfl)) dX6_copy_142
                    · skip
                      refine k_aload_n (pc := 122) C dX6_copy_122 rfl ?_
                      refine k_iconst (pc := 123) (v := 0) C dX6_copy_123 (by decide) ?_
                      refine k_iconst (pc := 124) (v := 5) C dX6_copy_124 (by decide) ?_
                      refine k_call2 (pc := 125) C cv_X6_51 ct_X6_refuse k_in6 rfl (by decide) rfl (Nat.le_of_ble_eq_true rfl) dX6_copy_125 ?_
                      exact k_iret (pc := 128) C rfl (k_fIml (by unfold f_X6_copy; rw [if_pos c2, if_pos c9, if_pos c36, if_pos c44, if_pos c54, if_neg c69, if_neg c77, if_pos c89, if_neg c107, if_pos c119]; try rfl)) dX6_copy_128
                · skip
                  refine k_aload_n (pc := 92) C dX6_copy_92 rfl ?_
                  refine k_iconst (pc := 93) (v := 0) C dX6_copy_93 (by decide) ?_
                  refine k_iconst (pc := 94) (v := 4) C dX6_copy_94 (by decide) ?_
                  refine k_call2 (pc := 95) C cv_X6_51 ct_X6_refuse k_in6 rfl (by decide) rfl (Nat.le_of_ble_eq_true rfl) dX6_copy_95 ?_
                  exact k_iret (pc := 98) C rfl (k_fIml (by unfold f_X6_copy; rw [if_pos c2, if_pos c9, if_pos c36, if_pos c44, if_pos c54, if_neg c69, if_neg c77, if_neg c89]; try rfl)) dX6_copy_98
              · skip
                refine k_aload_n (pc := 80) C dX6_copy_80 rfl ?_
                refine k_iconst (pc := 81) (v := 0) C dX6_copy_81 (by decide) ?_
                refine k_iconst (pc := 82) (v := 3) C dX6_copy_82 (by decide) ?_
                refine k_call2 (pc := 83) C cv_X6_51 ct_X6_refuse k_in6 rfl (by decide) rfl (Nat.le_of_ble_eq_true rfl) dX6_copy_83 ?_
                exact k_iret (pc := 86) C rfl (k_fIml (by unfold f_X6_copy; rw [if_pos c2, if_pos c9, if_pos c36, if_pos c44, if_pos c54, if_neg c69, if_pos c77]; try rfl)) dX6_copy_86
          · skip
            refine k_aload_n (pc := 57) C dX6_copy_57 rfl ?_
            refine k_iconst (pc := 58) (v := 0) C dX6_copy_58 (by decide) ?_
            refine k_iconst (pc := 59) (v := 2) C dX6_copy_59 (by decide) ?_
            refine k_call2 (pc := 60) C cv_X6_51 ct_X6_refuse k_in6 rfl (by decide) rfl (Nat.le_of_ble_eq_true rfl) dX6_copy_60 ?_
            exact k_iret (pc := 63) C rfl (k_fIml (by unfold f_X6_copy; rw [if_pos c2, if_pos c9, if_pos c36, if_pos c44, if_neg c54]; try rfl)) dX6_copy_63
    · skip
      refine k_call1 (pc := 9) C cv_X6_47 (ct_X6_shelfAt_n c9) k_in6 rfl (by decide) rfl (Nat.le_of_ble_eq_true rfl) dX6_copy_9 ?_
      refine k_astore_7 (pc := 12) C dX6_copy_12 rfl ?_
      refine k_aload (pc := 14) C dX6_copy_14 rfl ?_
      refine k_ifnullR (pc := 16) C dX6_copy_16 ?_
      refine k_aload (pc := 19) C dX6_copy_19 rfl ?_
      refine k_ifnonnullN (pc := 21) C dX6_copy_21 ?_
      refine k_aload_n (pc := 24) C dX6_copy_24 rfl ?_
      refine k_iconst (pc := 25) (v := 0) C dX6_copy_25 (by decide) ?_
      refine k_iconst (pc := 26) (v := 1) C dX6_copy_26 (by decide) ?_
      refine k_call2 (pc := 27) C cv_X6_51 ct_X6_refuse k_in6 rfl (by decide) rfl (Nat.le_of_ble_eq_true rfl) dX6_copy_27 ?_
      exact k_iret (pc := 30) C rfl (k_fIml (by unfold f_X6_copy; rw [if_pos c2, if_neg c9]; try rfl)) dX6_copy_30
  · skip
    refine k_call1 (pc := 2) C cv_X6_47 (ct_X6_shelfAt_n c2) k_in6 rfl (by decide) rfl (Nat.le_of_ble_eq_true rfl) dX6_copy_2 ?_
    refine k_astore_6 (pc := 5) C dX6_copy_5 rfl ?_
    refine k_aload_n (pc := 7) C dX6_copy_7 rfl ?_
    refine k_iload_n (pc := 8) C dX6_copy_8 rfl ?_
    by_cases c9 : f_X6_shelfAt q0 < 8
    · skip
      refine k_call1 (pc := 9) C cv_X6_47 (ct_X6_shelfAt_s c9) k_in6 rfl (by decide) rfl (Nat.le_of_ble_eq_true rfl) dX6_copy_9 ?_
      refine k_astore_7 (pc := 12) C dX6_copy_12 rfl ?_
      refine k_aload (pc := 14) C dX6_copy_14 rfl ?_
      refine k_ifnullN (pc := 16) C 24 dX6_copy_16 (by decide) ?_
      refine k_aload_n (pc := 24) C dX6_copy_24 rfl ?_
      refine k_iconst (pc := 25) (v := 0) C dX6_copy_25 (by decide) ?_
      refine k_iconst (pc := 26) (v := 1) C dX6_copy_26 (by decide) ?_
      refine k_call2 (pc := 27) C cv_X6_51 ct_X6_refuse k_in6 rfl (by decide) rfl (Nat.le_of_ble_eq_true rfl) dX6_copy_27 ?_
      exact k_iret (pc := 30) C rfl (k_fIml (by unfold f_X6_copy; rw [if_neg c2, if_pos c9]; try rfl)) dX6_copy_30
    · skip
      refine k_call1 (pc := 9) C cv_X6_47 (ct_X6_shelfAt_n c9) k_in6 rfl (by decide) rfl (Nat.le_of_ble_eq_true rfl) dX6_copy_9 ?_
      refine k_astore_7 (pc := 12) C dX6_copy_12 rfl ?_
      refine k_aload (pc := 14) C dX6_copy_14 rfl ?_
      refine k_ifnullN (pc := 16) C 24 dX6_copy_16 (by decide) ?_
      refine k_aload_n (pc := 24) C dX6_copy_24 rfl ?_
      refine k_iconst (pc := 25) (v := 0) C dX6_copy_25 (by decide) ?_
      refine k_iconst (pc := 26) (v := 1) C dX6_copy_26 (by decide) ?_
      refine k_call2 (pc := 27) C cv_X6_51 ct_X6_refuse k_in6 rfl (by decide) rfl (Nat.le_of_ble_eq_true rfl) dX6_copy_27 ?_
      exact k_iret (pc := 30) C rfl (k_fIml (by unfold f_X6_copy; rw [if_neg c2, if_neg c9]; try rfl)) dX6_copy_30
def f_X6_wear (mi : MemI) (cz : Int32) (n : Int32) : Int32 × MemI :=
  if f_X2_citizenAt mi 0 cz < 6 then if (f_X6_isOutside n 0 40) = 0 then if f_X2_citizenAt ((f_X2_passMornings (f_X2_become mi 1 0) 1 n.toNatClampNeg).2) 1 cz < 6 then (((f_X2_passMornings (f_X2_become mi 1 0) 1 n.toNatClampNeg).2) (1, 1, (f_X2_citizenAt ((f_X2_passMornings (f_X2_become mi 1 0) 1 n.toNatClampNeg).2) 1 cz)) 7, (f_X2_passMornings (f_X2_become mi 1 0) 1 n.toNatClampNeg).2)
      else ((-1), (f_X2_passMornings (f_X2_become mi 1 0) 1 n.toNatClampNeg).2)
    else ((f_X6_refuse mi 0 6).1, (f_X6_refuse mi 0 6).2)
  else ((f_X6_refuse mi 0 1).1, (f_X6_refuse mi 0 1).2)
set_option maxRecDepth 100000 in
set_option maxHeartbeats 4000000 in
theorem ct_X6_wear {mi : MemI} {ml : MemL} {cz : Int32} {n : Int32} (hZ0 : k_zo 0 mi) : k_Ct k_KS k_R0 Mt_X6_wear 6 [vR (6, 0, 0), vI cz, vI n] mi ml (k_rt (some (vI (f_X6_wear mi cz n).1)) (f_X6_wear mi cz n).2 ml) := by
  refine k_ofV (L0 := [vR (6, 0, 0), vI cz, vI n, vU]) (by decide +kernel) (Nat.le_of_ble_eq_true rfl) rfl rfl ?_
  intro p l e s m args below meth c D cy ad bs C
  refine k_aload_n (pc := 0) C dX6_wear_0 rfl ?_
  refine k_getR (pc := 1) (r := some (2, 0, 0)) C fl_X6_10 k_in6 rfl rfl rfl dX6_wear_1 ?_
  refine k_iload_n (pc := 4) C dX6_wear_4 rfl ?_
  by_cases c5 : f_X2_citizenAt mi 0 cz < 6
  · skip
    refine k_call1 (pc := 5) C cv_X6_94 (ct_X2_citizenAt_s (by decide) c5) (k_in2 (by decide)) rfl (by decide) rfl (Nat.le_of_ble_eq_true rfl) dX6_wear_5 ?_
    refine k_ifnonnullR (pc := 8) C 18 dX6_wear_8 (by decide) ?_
    refine k_iload_n (pc := 18) C dX6_wear_18 rfl ?_
    refine k_iconst (pc := 19) (v := 0) C dX6_wear_19 (by decide) ?_
    refine k_bipush (pc := 20) (v := 40) C dX6_wear_20 (by decide) ?_
    refine k_calls3 (pc := 22) C cs_X6_120 ct_X6_isOutside (by decide) rfl (Nat.le_of_ble_eq_true rfl) dX6_wear_22 ?_
    refine k_if_eq (pc := 25) C 36 dX6_wear_25 (by decide) (fun c25 => ?_) (fun c25 => ?_)
    · skip
      refine k_aload_n (pc := 36) C dX6_wear_36 rfl ?_
      refine k_getR (pc := 37) (r := some (2, 1, 0)) C fl_X6_16 k_in6 rfl rfl rfl dX6_wear_37 ?_
      refine k_aload_n (pc := 40) C dX6_wear_40 rfl ?_
      refine k_getR (pc := 41) (r := some (2, 0, 0)) C fl_X6_10 k_in6 rfl rfl rfl dX6_wear_41 ?_
      refine k_callv1 (pc := 44) C cv_X6_181 (ct_X2_become (by decide) (by decide) hZ0 (by decide)) (k_in2 (by decide)) rfl (by decide) rfl (Nat.le_of_ble_eq_true rfl) dX6_wear_44 ?_
      refine k_aload_n (pc := 47) C dX6_wear_47 rfl ?_
      refine k_getR (pc := 48) (r := some (2, 1, 0)) C fl_X6_16 k_in6 rfl rfl rfl dX6_wear_48 ?_
      refine k_iload_n (pc := 51) C dX6_wear_51 rfl ?_
      obtain ⟨hNe, hNl⟩ := isOut_nat (N := 40) (by decide) (by decide) c25
      refine k_castS (st' := [vI (nI n.toNatClampNeg), vR (2, 1, 0)]) (by rw [← hNe]) ?_
      refine k_call1 (pc := 52) C cv_X6_207 (ct_X2_passMornings (by decide) (by first | assumption | omega | decide)) (k_in2 (by decide)) rfl (by decide) rfl (Nat.le_of_ble_eq_true rfl) dX6_wear_52 ?_
      refine k_pop (pc := 55) C dX6_wear_55 rfl ?_
      refine k_aload_n (pc := 56) C dX6_wear_56 rfl ?_
      refine k_getR (pc := 57) (r := some (2, 1, 0)) C fl_X6_16 k_in6 rfl rfl rfl dX6_wear_57 ?_
      refine k_iload_n (pc := 60) C dX6_wear_60 rfl ?_
      by_cases c61 : f_X2_citizenAt ((f_X2_passMornings (f_X2_become mi 1 0) 1 n.toNatClampNeg).2) 1 cz < 6
      · skip
        refine k_call1 (pc := 61) C cv_X6_94 (ct_X2_citizenAt_s (by decide) c61) (k_in2 (by decide)) rfl (by decide) rfl (Nat.le_of_ble_eq_true rfl) dX6_wear_61 ?_
        refine k_astore_3 (pc := 64) C dX6_wear_64 rfl ?_
        refine k_aload_n (pc := 65) C dX6_wear_65 rfl ?_
        refine k_ifnonnullR (pc := 66) C 73 dX6_wear_66 (by decide) ?_
        refine k_aload_n (pc := 73) C dX6_wear_73 rfl ?_
        refine k_getI (pc := 74) C fl_X6_156 (k_in1 (by decide) c61) rfl rfl dX6_wear_74 ?_
        exact k_iret (pc := 77) C rfl (k_fIm (by unfold f_X6_wear; rw [if_pos c5, if_pos c25, if_pos c61]; try rfl)) dX6_wear_77
      · skip
        refine k_call1 (pc := 61) C cv_X6_94 (ct_X2_citizenAt_n (by decide) c61) (k_in2 (by decide)) rfl (by decide) rfl (Nat.le_of_ble_eq_true rfl) dX6_wear_61 ?_
        refine k_astore_3 (pc := 64) C dX6_wear_64 rfl ?_
        refine k_aload_n (pc := 65) C dX6_wear_65 rfl ?_
        refine k_ifnonnullN (pc := 66) C dX6_wear_66 ?_
        refine k_iconst (pc := 69) (v := (-1)) C dX6_wear_69 (by decide) ?_
        refine k_goto (pc := 70) C 77 dX6_wear_70 (by decide) ?_
        exact k_iret (pc := 77) C rfl (k_fIm (by unfold f_X6_wear; rw [if_pos c5, if_pos c25, if_neg c61]; try rfl)) dX6_wear_77
    · skip
      refine k_aload_n (pc := 28) C dX6_wear_28 rfl ?_
      refine k_iconst (pc := 29) (v := 0) C dX6_wear_29 (by decide) ?_
      refine k_bipush (pc := 30) (v := 6) C dX6_wear_30 (by decide) ?_
      refine k_call2 (pc := 32) C cv_X6_51 ct_X6_refuse k_in6 rfl (by decide) rfl (Nat.le_of_ble_eq_true rfl) dX6_wear_32 ?_
      exact k_iret (pc := 35) C rfl (k_fIm (by unfold f_X6_wear; rw [if_pos c5, if_neg c25]; try rfl)) dX6_wear_35
  · skip
    refine k_call1 (pc := 5) C cv_X6_94 (ct_X2_citizenAt_n (by decide) c5) (k_in2 (by decide)) rfl (by decide) rfl (Nat.le_of_ble_eq_true rfl) dX6_wear_5 ?_
    refine k_ifnonnullN (pc := 8) C dX6_wear_8 ?_
    refine k_aload_n (pc := 11) C dX6_wear_11 rfl ?_
    refine k_iconst (pc := 12) (v := 0) C dX6_wear_12 (by decide) ?_
    refine k_iconst (pc := 13) (v := 1) C dX6_wear_13 (by decide) ?_
    refine k_call2 (pc := 14) C cv_X6_51 ct_X6_refuse k_in6 rfl (by decide) rfl (Nat.le_of_ble_eq_true rfl) dX6_wear_14 ?_
    exact k_iret (pc := 17) C rfl (k_fIm (by unfold f_X6_wear; rw [if_neg c5]; try rfl)) dX6_wear_17
def f_X6_unkept (mi : MemI) (n : Int32) (w : Int32) : Int32 × MemI :=
  if (f_X6_isOutside w 0 1) = 0 then if (f_X6_isOutside n 0 40) = 0 then if w = 0 then ((f_X2_passMornings (f_X2_become mi 1 0) 1 n.toNatClampNeg).1, (f_X2_passMornings (f_X2_become mi 1 0) 1 n.toNatClampNeg).2)
      else ((f_X2_firstHungryMorning (f_X2_become mi 1 0) 1 n.toNatClampNeg).1, (f_X2_firstHungryMorning (f_X2_become mi 1 0) 1 n.toNatClampNeg).2)
    else ((f_X6_refuse mi 10 6).1, (f_X6_refuse mi 10 6).2)
  else ((f_X6_refuse mi 10 5).1, (f_X6_refuse mi 10 5).2)
set_option maxRecDepth 100000 in
set_option maxHeartbeats 4000000 in
theorem ct_X6_unkept {mi : MemI} {ml : MemL} {n : Int32} {w : Int32} (hZ0 : k_zo 0 mi) : k_Ct k_KS k_R0 Mt_X6_unkept 6 [vR (6, 0, 0), vI n, vI w] mi ml (k_rt (some (vI (f_X6_unkept mi n w).1)) (f_X6_unkept mi n w).2 ml) := by
  refine k_ofV (L0 := [vR (6, 0, 0), vI n, vI w]) (by decide +kernel) (Nat.le_of_ble_eq_true rfl) rfl rfl ?_
  intro p l e s m args below meth c D cy ad bs C
  refine k_iload_n (pc := 0) C dX6_unkept_0 rfl ?_
  refine k_iconst (pc := 1) (v := 0) C dX6_unkept_1 (by decide) ?_
  refine k_iconst (pc := 2) (v := 1) C dX6_unkept_2 (by decide) ?_
  refine k_calls3 (pc := 3) C cs_X6_120 ct_X6_isOutside (by decide) rfl (Nat.le_of_ble_eq_true rfl) dX6_unkept_3 ?_
  refine k_if_eq (pc := 6) C 17 dX6_unkept_6 (by decide) (fun c6 => ?_) (fun c6 => ?_)
  · skip
    refine k_iload_n (pc := 17) C dX6_unkept_17 rfl ?_
    refine k_iconst (pc := 18) (v := 0) C dX6_unkept_18 (by decide) ?_
    refine k_bipush (pc := 19) (v := 40) C dX6_unkept_19 (by decide) ?_
    refine k_calls3 (pc := 21) C cs_X6_120 ct_X6_isOutside (by decide) rfl (Nat.le_of_ble_eq_true rfl) dX6_unkept_21 ?_
    refine k_if_eq (pc := 24) C 36 dX6_unkept_24 (by decide) (fun c24 => ?_) (fun c24 => ?_)
    · skip
      refine k_aload_n (pc := 36) C dX6_unkept_36 rfl ?_
      refine k_getR (pc := 37) (r := some (2, 1, 0)) C fl_X6_16 k_in6 rfl rfl rfl dX6_unkept_37 ?_
      refine k_aload_n (pc := 40) C dX6_unkept_40 rfl ?_
      refine k_getR (pc := 41) (r := some (2, 0, 0)) C fl_X6_10 k_in6 rfl rfl rfl dX6_unkept_41 ?_
      refine k_callv1 (pc := 44) C cv_X6_181 (ct_X2_become (by decide) (by decide) hZ0 (by decide)) (k_in2 (by decide)) rfl (by decide) rfl (Nat.le_of_ble_eq_true rfl) dX6_unkept_44 ?_
      refine k_iload_n (pc := 47) C dX6_unkept_47 rfl ?_
      refine k_if_ne (pc := 48) C 62 dX6_unkept_48 (by decide) (fun c48 => ?_) (fun c48 => ?_)
      · skip
        refine k_aload_n (pc := 62) C dX6_unkept_62 rfl ?_
        refine k_getR (pc := 63) (r := some (2, 1, 0)) C fl_X6_16 k_in6 rfl rfl rfl dX6_unkept_63 ?_
        refine k_iload_n (pc := 66) C dX6_unkept_66 rfl ?_
        obtain ⟨hNe, hNl⟩ := isOut_nat (N := 40) (by decide) (by decide) c24
        refine k_castS (st' := [vI (nI n.toNatClampNeg), vR (2, 1, 0)]) (by rw [← hNe]) ?_
        refine k_call1 (pc := 67) C cv_X6_210 (ct_X2_firstHungryMorning (by decide) (by first | assumption | omega)) (k_in2 (by decide)) rfl (by decide) rfl (Nat.le_of_ble_eq_true rfl) dX6_unkept_67 ?_
        exact k_iret (pc := 70) C rfl (k_fIm (by unfold f_X6_unkept; rw [if_pos c6, if_pos c24, if_neg c48]; try rfl)) dX6_unkept_70
      · skip
        refine k_aload_n (pc := 51) C dX6_unkept_51 rfl ?_
        refine k_getR (pc := 52) (r := some (2, 1, 0)) C fl_X6_16 k_in6 rfl rfl rfl dX6_unkept_52 ?_
        refine k_iload_n (pc := 55) C dX6_unkept_55 rfl ?_
        obtain ⟨hNe, hNl⟩ := isOut_nat (N := 40) (by decide) (by decide) c24
        refine k_castS (st' := [vI (nI n.toNatClampNeg), vR (2, 1, 0)]) (by rw [← hNe]) ?_
        refine k_call1 (pc := 56) C cv_X6_207 (ct_X2_passMornings (by decide) (by first | assumption | omega | decide)) (k_in2 (by decide)) rfl (by decide) rfl (Nat.le_of_ble_eq_true rfl) dX6_unkept_56 ?_
        refine k_goto (pc := 59) C 70 dX6_unkept_59 (by decide) ?_
        exact k_iret (pc := 70) C rfl (k_fIm (by unfold f_X6_unkept; rw [if_pos c6, if_pos c24, if_pos c48]; try rfl)) dX6_unkept_70
    · skip
      refine k_aload_n (pc := 27) C dX6_unkept_27 rfl ?_
      refine k_bipush (pc := 28) (v := 10) C dX6_unkept_28 (by decide) ?_
      refine k_bipush (pc := 30) (v := 6) C dX6_unkept_30 (by decide) ?_
      refine k_call2 (pc := 32) C cv_X6_51 ct_X6_refuse k_in6 rfl (by decide) rfl (Nat.le_of_ble_eq_true rfl) dX6_unkept_32 ?_
      exact k_iret (pc := 35) C rfl (k_fIm (by unfold f_X6_unkept; rw [if_pos c6, if_neg c24]; try rfl)) dX6_unkept_35
  · skip
    refine k_aload_n (pc := 9) C dX6_unkept_9 rfl ?_
    refine k_bipush (pc := 10) (v := 10) C dX6_unkept_10 (by decide) ?_
    refine k_iconst (pc := 12) (v := 5) C dX6_unkept_12 (by decide) ?_
    refine k_call2 (pc := 13) C cv_X6_51 ct_X6_refuse k_in6 rfl (by decide) rfl (Nat.le_of_ble_eq_true rfl) dX6_unkept_13 ?_
    exact k_iret (pc := 16) C rfl (k_fIm (by unfold f_X6_unkept; rw [if_neg c6]; try rfl)) dX6_unkept_16
def f_X6_mornings (mi : MemI) (n : Int32) : Int32 × MemI :=
  if (f_X6_isOutside n 1 60) = 0 then ((f_X2_passMornings mi 0 n.toNatClampNeg).1, (f_X2_passMornings mi 0 n.toNatClampNeg).2)
  else ((f_X6_refuse mi 0 6).1, (f_X6_refuse mi 0 6).2)
set_option maxRecDepth 100000 in
set_option maxHeartbeats 4000000 in
theorem ct_X6_mornings {mi : MemI} {ml : MemL} {n : Int32}  : k_Ct k_KS k_R0 Mt_X6_mornings 6 [vR (6, 0, 0), vI n] mi ml (k_rt (some (vI (f_X6_mornings mi n).1)) (f_X6_mornings mi n).2 ml) := by
  refine k_ofV (L0 := [vR (6, 0, 0), vI n]) (by decide +kernel) (Nat.le_of_ble_eq_true rfl) rfl rfl ?_
  intro p l e s m args below meth c D cy ad bs C
  refine k_iload_n (pc := 0) C dX6_mornings_0 rfl ?_
  refine k_iconst (pc := 1) (v := 1) C dX6_mornings_1 (by decide) ?_
  refine k_bipush (pc := 2) (v := 60) C dX6_mornings_2 (by decide) ?_
  refine k_calls3 (pc := 4) C cs_X6_120 ct_X6_isOutside (by decide) rfl (Nat.le_of_ble_eq_true rfl) dX6_mornings_4 ?_
  refine k_if_eq (pc := 7) C 18 dX6_mornings_7 (by decide) (fun c7 => ?_) (fun c7 => ?_)
  · skip
    refine k_aload_n (pc := 18) C dX6_mornings_18 rfl ?_
    refine k_getR (pc := 19) (r := some (2, 0, 0)) C fl_X6_10 k_in6 rfl rfl rfl dX6_mornings_19 ?_
    refine k_iload_n (pc := 22) C dX6_mornings_22 rfl ?_
    obtain ⟨hNe, hNl⟩ := isOut_nat (N := 60) (by decide) (by decide) c7
    refine k_castS (st' := [vI (nI n.toNatClampNeg), vR (2, 0, 0)]) (by rw [← hNe]) ?_
    refine k_call1 (pc := 23) C cv_X6_207 (ct_X2_passMornings (by decide) (by first | assumption | omega | decide)) (k_in2 (by decide)) rfl (by decide) rfl (Nat.le_of_ble_eq_true rfl) dX6_mornings_23 ?_
    exact k_iret (pc := 26) C rfl (k_fIm (by unfold f_X6_mornings; rw [if_pos c7]; try rfl)) dX6_mornings_26
  · skip
    refine k_aload_n (pc := 10) C dX6_mornings_10 rfl ?_
    refine k_iconst (pc := 11) (v := 0) C dX6_mornings_11 (by decide) ?_
    refine k_bipush (pc := 12) (v := 6) C dX6_mornings_12 (by decide) ?_
    refine k_call2 (pc := 14) C cv_X6_51 ct_X6_refuse k_in6 rfl (by decide) rfl (Nat.le_of_ble_eq_true rfl) dX6_mornings_14 ?_
    exact k_iret (pc := 17) C rfl (k_fIm (by unfold f_X6_mornings; rw [if_neg c7]; try rfl)) dX6_mornings_17
def f_X6_lose (mi : MemI) (cz : Int32) : Int32 × MemI :=
  if f_X2_citizenAt mi 0 cz < 6 then if (mi (1, 0, (f_X2_citizenAt mi 0 cz)) 2) = 0 then if f_X2_citizenAt ((f_X2_hungryMorning (f_X2_become mi 1 0) 1).2) 1 cz < 6 then (((f_X2_hungryMorning (k_ui ((f_X2_hungryMorning (f_X2_become mi 1 0) 1).2) (1, 1, (f_X2_citizenAt ((f_X2_hungryMorning (f_X2_become mi 1 0) 1).2) 1 cz)) 2 1) 1).1) - ((f_X2_hungryMorning (f_X2_become mi 1 0) 1).1), (f_X2_hungryMorning (k_ui ((f_X2_hungryMorning (f_X2_become mi 1 0) 1).2) (1, 1, (f_X2_citizenAt ((f_X2_hungryMorning (f_X2_become mi 1 0) 1).2) 1 cz)) 2 1) 1).2)
      else (((f_X2_hungryMorning ((f_X2_hungryMorning (f_X2_become mi 1 0) 1).2) 1).1) - ((f_X2_hungryMorning (f_X2_become mi 1 0) 1).1), (f_X2_hungryMorning ((f_X2_hungryMorning (f_X2_become mi 1 0) 1).2) 1).2)
    else ((f_X6_refuse mi 100 6).1, (f_X6_refuse mi 100 6).2)
  else ((f_X6_refuse mi 100 1).1, (f_X6_refuse mi 100 1).2)
set_option maxRecDepth 100000 in
set_option maxHeartbeats 4000000 in
theorem ct_X6_lose {mi : MemI} {ml : MemL} {cz : Int32} (hZ0 : k_zo 0 mi) : k_Ct k_KS k_R0 Mt_X6_lose 5 [vR (6, 0, 0), vI cz] mi ml (k_rt (some (vI (f_X6_lose mi cz).1)) (f_X6_lose mi cz).2 ml) := by
  refine k_ofV (L0 := [vR (6, 0, 0), vI cz, vU, vU, vU]) (by decide +kernel) (Nat.le_of_ble_eq_true rfl) rfl rfl ?_
  intro p l e s m args below meth c D cy ad bs C
  refine k_aload_n (pc := 0) C dX6_lose_0 rfl ?_
  refine k_getR (pc := 1) (r := some (2, 0, 0)) C fl_X6_10 k_in6 rfl rfl rfl dX6_lose_1 ?_
  refine k_iload_n (pc := 4) C dX6_lose_4 rfl ?_
  by_cases c5 : f_X2_citizenAt mi 0 cz < 6
  · skip
    refine k_call1 (pc := 5) C cv_X6_94 (ct_X2_citizenAt_s (by decide) c5) (k_in2 (by decide)) rfl (by decide) rfl (Nat.le_of_ble_eq_true rfl) dX6_lose_5 ?_
    refine k_astore_2 (pc := 8) C dX6_lose_8 rfl ?_
    refine k_aload_n (pc := 9) C dX6_lose_9 rfl ?_
    refine k_ifnonnullR (pc := 10) C 21 dX6_lose_10 (by decide) ?_
    refine k_aload_n (pc := 21) C dX6_lose_21 rfl ?_
    refine k_getI (pc := 22) C fl_X6_162 (k_in1 (by decide) c5) rfl rfl dX6_lose_22 ?_
    refine k_if_eq (pc := 25) C 37 dX6_lose_25 (by decide) (fun c25 => ?_) (fun c25 => ?_)
    · skip
      refine k_aload_n (pc := 37) C dX6_lose_37 rfl ?_
      refine k_getR (pc := 38) (r := some (2, 1, 0)) C fl_X6_16 k_in6 rfl rfl rfl dX6_lose_38 ?_
      refine k_aload_n (pc := 41) C dX6_lose_41 rfl ?_
      refine k_getR (pc := 42) (r := some (2, 0, 0)) C fl_X6_10 k_in6 rfl rfl rfl dX6_lose_42 ?_
      refine k_callv1 (pc := 45) C cv_X6_181 (ct_X2_become (by decide) (by decide) hZ0 (by decide)) (k_in2 (by decide)) rfl (by decide) rfl (Nat.le_of_ble_eq_true rfl) dX6_lose_45 ?_
      refine k_aload_n (pc := 48) C dX6_lose_48 rfl ?_
      refine k_getR (pc := 49) (r := some (2, 1, 0)) C fl_X6_16 k_in6 rfl rfl rfl dX6_lose_49 ?_
      refine k_call0 (pc := 52) C cv_X6_240 (ct_X2_hungryMorning (by decide)) (k_in2 (by decide)) rfl (by decide) rfl (Nat.le_of_ble_eq_true rfl) dX6_lose_52 ?_
      refine k_istore_3 (pc := 55) C dX6_lose_55 rfl ?_
      refine k_aload_n (pc := 56) C dX6_lose_56 rfl ?_
      refine k_getR (pc := 57) (r := some (2, 1, 0)) C fl_X6_16 k_in6 rfl rfl rfl dX6_lose_57 ?_
      refine k_iload_n (pc := 60) C dX6_lose_60 rfl ?_
      by_cases c61 : f_X2_citizenAt ((f_X2_hungryMorning (f_X2_become mi 1 0) 1).2) 1 cz < 6
      · skip
        refine k_call1 (pc := 61) C cv_X6_94 (ct_X2_citizenAt_s (by decide) c61) (k_in2 (by decide)) rfl (by decide) rfl (Nat.le_of_ble_eq_true rfl) dX6_lose_61 ?_
        refine k_astore_4 (pc := 64) C dX6_lose_64 rfl ?_
        refine k_aload (pc := 66) C dX6_lose_66 rfl ?_
        refine k_ifnullR (pc := 68) C dX6_lose_68 ?_
        refine k_aload (pc := 71) C dX6_lose_71 rfl ?_
        refine k_iconst (pc := 73) (v := 1) C dX6_lose_73 (by decide) ?_
        refine k_putZ (pc := 74) C (Or.inr rfl) pl_X6_162 (k_in1 (by decide) c61) rfl rfl dX6_lose_74 ?_
        refine k_aload_n (pc := 77) C dX6_lose_77 rfl ?_
        refine k_getR (pc := 78) (r := some (2, 1, 0)) C fl_X6_16 k_in6 rfl rfl rfl dX6_lose_78 ?_
        refine k_call0 (pc := 81) C cv_X6_240 (ct_X2_hungryMorning (by decide)) (k_in2 (by decide)) rfl (by decide) rfl (Nat.le_of_ble_eq_true rfl) dX6_lose_81 ?_
        refine k_iload_n (pc := 84) C dX6_lose_84 rfl ?_
        refine k_isub (pc := 85) C dX6_lose_85 ?_
        exact k_iret (pc := 86) C rfl (k_fIm (by unfold f_X6_lose; rw [if_pos c5, if_pos c25, if_pos c61]; try rfl)) dX6_lose_86
      · skip
        refine k_call1 (pc := 61) C cv_X6_94 (ct_X2_citizenAt_n (by decide) c61) (k_in2 (by decide)) rfl (by decide) rfl (Nat.le_of_ble_eq_true rfl) dX6_lose_61 ?_
        refine k_astore_4 (pc := 64) C dX6_lose_64 rfl ?_
        refine k_aload (pc := 66) C dX6_lose_66 rfl ?_
        refine k_ifnullN (pc := 68) C 77 dX6_lose_68 (by decide) ?_
        refine k_aload_n (pc := 77) C dX6_lose_77 rfl ?_
        refine k_getR (pc := 78) (r := some (2, 1, 0)) C fl_X6_16 k_in6 rfl rfl rfl dX6_lose_78 ?_
        refine k_call0 (pc := 81) C cv_X6_240 (ct_X2_hungryMorning (by decide)) (k_in2 (by decide)) rfl (by decide) rfl (Nat.le_of_ble_eq_true rfl) dX6_lose_81 ?_
        refine k_iload_n (pc := 84) C dX6_lose_84 rfl ?_
        refine k_isub (pc := 85) C dX6_lose_85 ?_
        exact k_iret (pc := 86) C rfl (k_fIm (by unfold f_X6_lose; rw [if_pos c5, if_pos c25, if_neg c61]; try rfl)) dX6_lose_86
    · skip
      refine k_aload_n (pc := 28) C dX6_lose_28 rfl ?_
      refine k_bipush (pc := 29) (v := 100) C dX6_lose_29 (by decide) ?_
      refine k_bipush (pc := 31) (v := 6) C dX6_lose_31 (by decide) ?_
      refine k_call2 (pc := 33) C cv_X6_51 ct_X6_refuse k_in6 rfl (by decide) rfl (Nat.le_of_ble_eq_true rfl) dX6_lose_33 ?_
      exact k_iret (pc := 36) C rfl (k_fIm (by unfold f_X6_lose; rw [if_pos c5, if_neg c25]; try rfl)) dX6_lose_36
  · skip
    refine k_call1 (pc := 5) C cv_X6_94 (ct_X2_citizenAt_n (by decide) c5) (k_in2 (by decide)) rfl (by decide) rfl (Nat.le_of_ble_eq_true rfl) dX6_lose_5 ?_
    refine k_astore_2 (pc := 8) C dX6_lose_8 rfl ?_
    refine k_aload_n (pc := 9) C dX6_lose_9 rfl ?_
    refine k_ifnonnullN (pc := 10) C dX6_lose_10 ?_
    refine k_aload_n (pc := 13) C dX6_lose_13 rfl ?_
    refine k_bipush (pc := 14) (v := 100) C dX6_lose_14 (by decide) ?_
    refine k_iconst (pc := 16) (v := 1) C dX6_lose_16 (by decide) ?_
    refine k_call2 (pc := 17) C cv_X6_51 ct_X6_refuse k_in6 rfl (by decide) rfl (Nat.le_of_ble_eq_true rfl) dX6_lose_17 ?_
    exact k_iret (pc := 20) C rfl (k_fIm (by unfold f_X6_lose; rw [if_neg c5]; try rfl)) dX6_lose_20
def f_X6_image (mi : MemI) : Int32 × MemI :=
  ((k_ui (f_X2_become mi 2 0) (6, 0, 0) 3 1) (2, 0, 0) 2, k_ui (f_X2_become mi 2 0) (6, 0, 0) 3 1)
set_option maxRecDepth 100000 in
set_option maxHeartbeats 4000000 in
theorem ct_X6_image {mi : MemI} {ml : MemL}  (hZ0 : k_zo 0 mi) : k_Ct k_KS k_R0 Mt_X6_image 2 [vR (6, 0, 0)] mi ml (k_rt (some (vI (f_X6_image mi).1)) (f_X6_image mi).2 ml) := by
  refine k_ofV (L0 := [vR (6, 0, 0)]) (by decide +kernel) (Nat.le_of_ble_eq_true rfl) rfl rfl ?_
  intro p l e s m args below meth c D cy ad bs C
  refine k_aload_n (pc := 0) C dX6_image_0 rfl ?_
  refine k_getR (pc := 1) (r := some (2, 2, 0)) C fl_X6_19 k_in6 rfl rfl rfl dX6_image_1 ?_
  refine k_aload_n (pc := 4) C dX6_image_4 rfl ?_
  refine k_getR (pc := 5) (r := some (2, 0, 0)) C fl_X6_10 k_in6 rfl rfl rfl dX6_image_5 ?_
  refine k_callv1 (pc := 8) C cv_X6_181 (ct_X2_become (by decide) (by decide) hZ0 (by decide)) (k_in2 (by decide)) rfl (by decide) rfl (Nat.le_of_ble_eq_true rfl) dX6_image_8 ?_
  refine k_aload_n (pc := 11) C dX6_image_11 rfl ?_
  refine k_iconst (pc := 12) (v := 1) C dX6_image_12 (by decide) ?_
  refine k_putZ (pc := 13) C (Or.inr rfl) pl_X6_279 k_in6 rfl rfl dX6_image_13 ?_
  refine k_aload_n (pc := 16) C dX6_image_16 rfl ?_
  refine k_getR (pc := 17) (r := some (2, 0, 0)) C fl_X6_10 k_in6 rfl rfl rfl dX6_image_17 ?_
  refine k_getI (pc := 20) C fl_X6_282 (k_in2 (by decide)) rfl rfl dX6_image_20 ?_
  exact k_iret (pc := 23) C rfl (k_fIm rfl) dX6_image_23
def f_X6_city (mi : MemI) (ml : MemL) (s0 : Int32) : Int32 × MemI :=
  if (f_X6_noRow mi s0) = 0 then if f_X6_shelfAt s0 < 8 then if ((f_X4_read (f_X2_become mi 1 0) ml (f_X6_shelfAt s0)).1) = (-1) then ((f_X6_refuse ((f_X4_read (f_X2_become mi 1 0) ml (f_X6_shelfAt s0)).2) 0 6).1, (f_X6_refuse ((f_X4_read (f_X2_become mi 1 0) ml (f_X6_shelfAt s0)).2) 0 6).2)
      else ((f_X4_read (f_X2_become mi 1 0) ml (f_X6_shelfAt s0)).1, f_X2_become ((f_X4_read (f_X2_become mi 1 0) ml (f_X6_shelfAt s0)).2) 0 1)
    else ((f_X6_refuse mi 0 1).1, (f_X6_refuse mi 0 1).2)
  else ((f_X6_refuse mi 0 (f_X6_noRow mi s0)).1, (f_X6_refuse mi 0 (f_X6_noRow mi s0)).2)
set_option maxRecDepth 100000 in
set_option maxHeartbeats 4000000 in
theorem ct_X6_city {mi : MemI} {ml : MemL} {s0 : Int32} (hZ0 : k_zo 0 mi) (hZ1 : k_zo 1 (f_X4_read (f_X2_become mi 1 0) ml (f_X6_shelfAt s0)).2) : k_Ct k_KS k_R0 Mt_X6_city 8 [vR (6, 0, 0), vI s0] mi ml (k_rt (some (vI (f_X6_city mi ml s0).1)) (f_X6_city mi ml s0).2 ml) := by
  refine k_ofV (L0 := [vR (6, 0, 0), vI s0, vU, vU, vU]) (by decide +kernel) (Nat.le_of_ble_eq_true rfl) rfl rfl ?_
  intro p l e s m args below meth c D cy ad bs C
  refine k_aload_n (pc := 0) C dX6_city_0 rfl ?_
  refine k_iload_n (pc := 1) C dX6_city_1 rfl ?_
  refine k_call1 (pc := 2) C cv_X6_59 ct_X6_noRow k_in6 rfl (by decide) rfl (Nat.le_of_ble_eq_true rfl) dX6_city_2 ?_
  refine k_istore_2 (pc := 5) C dX6_city_5 rfl ?_
  refine k_iload_n (pc := 6) C dX6_city_6 rfl ?_
  refine k_if_eq (pc := 7) C 17 dX6_city_7 (by decide) (fun c7 => ?_) (fun c7 => ?_)
  · skip
    refine k_aload_n (pc := 17) C dX6_city_17 rfl ?_
    refine k_iload_n (pc := 18) C dX6_city_18 rfl ?_
    by_cases c19 : f_X6_shelfAt s0 < 8
    · skip
      refine k_call1 (pc := 19) C cv_X6_47 (ct_X6_shelfAt_s c19) k_in6 rfl (by decide) rfl (Nat.le_of_ble_eq_true rfl) dX6_city_19 ?_
      refine k_astore_3 (pc := 22) C dX6_city_22 rfl ?_
      refine k_aload_n (pc := 23) C dX6_city_23 rfl ?_
      refine k_ifnonnullR (pc := 24) C 34 dX6_city_24 (by decide) ?_
      refine k_aload_n (pc := 34) C dX6_city_34 rfl ?_
      refine k_getR (pc := 35) (r := some (2, 1, 0)) C fl_X6_16 k_in6 rfl rfl rfl dX6_city_35 ?_
      refine k_aload_n (pc := 38) C dX6_city_38 rfl ?_
      refine k_getR (pc := 39) (r := some (2, 0, 0)) C fl_X6_10 k_in6 rfl rfl rfl dX6_city_39 ?_
      refine k_callv1 (pc := 42) C cv_X6_181 (ct_X2_become (by decide) (by decide) hZ0 (by decide)) (k_in2 (by decide)) rfl (by decide) rfl (Nat.le_of_ble_eq_true rfl) dX6_city_42 ?_
      refine k_aload_n (pc := 45) C dX6_city_45 rfl ?_
      refine k_getR (pc := 46) (r := some (4, 0, 0)) C fl_X6_35 k_in6 rfl rfl rfl dX6_city_46 ?_
      refine k_aload_n (pc := 49) C dX6_city_49 rfl ?_
      refine k_aload_n (pc := 50) C dX6_city_50 rfl ?_
      refine k_getR (pc := 51) (r := some (2, 1, 0)) C fl_X6_16 k_in6 rfl rfl rfl dX6_city_51 ?_
      refine k_call2 (pc := 54) C cv_X6_185 (ct_X4_read c19) k_in4 rfl (by decide) rfl (Nat.le_of_ble_eq_true rfl) dX6_city_54 ?_
      refine k_istore_4 (pc := 57) C dX6_city_57 rfl ?_
      refine k_iload (pc := 59) C dX6_city_59 rfl ?_
      refine k_iconst (pc := 61) (v := (-1)) C dX6_city_61 (by decide) ?_
      refine k_icmp_ne (pc := 62) C 73 dX6_city_62 (by decide) (fun c62 => ?_) (fun c62 => ?_)
      · skip
        refine k_aload_n (pc := 73) C dX6_city_73 rfl ?_
        refine k_getR (pc := 74) (r := some (2, 0, 0)) C fl_X6_10 k_in6 rfl rfl rfl dX6_city_74 ?_
        refine k_aload_n (pc := 77) C dX6_city_77 rfl ?_
        refine k_getR (pc := 78) (r := some (2, 1, 0)) C fl_X6_16 k_in6 rfl rfl rfl dX6_city_78 ?_
        refine k_callv1 (pc := 81) C cv_X6_181 (ct_X2_become (by decide) (by decide) hZ1 (by decide)) (k_in2 (by decide)) rfl (by decide) rfl (Nat.le_of_ble_eq_true rfl) dX6_city_81 ?_
        refine k_iload (pc := 84) C dX6_city_84 rfl ?_
        exact k_iret (pc := 86) C rfl (k_fIm (by unfold f_X6_city; rw [if_pos c7, if_pos c19, if_neg c62]; try rfl)) dX6_city_86
      · skip
        refine k_aload_n (pc := 65) C dX6_city_65 rfl ?_
        refine k_iconst (pc := 66) (v := 0) C dX6_city_66 (by decide) ?_
        refine k_bipush (pc := 67) (v := 6) C dX6_city_67 (by decide) ?_
        refine k_call2 (pc := 69) C cv_X6_51 ct_X6_refuse k_in6 rfl (by decide) rfl (Nat.le_of_ble_eq_true rfl) dX6_city_69 ?_
        exact k_iret (pc := 72) C rfl (k_fIm (by unfold f_X6_city; rw [if_pos c7, if_pos c19, if_pos c62]; try rfl)) dX6_city_72
    · skip
      refine k_call1 (pc := 19) C cv_X6_47 (ct_X6_shelfAt_n c19) k_in6 rfl (by decide) rfl (Nat.le_of_ble_eq_true rfl) dX6_city_19 ?_
      refine k_astore_3 (pc := 22) C dX6_city_22 rfl ?_
      refine k_aload_n (pc := 23) C dX6_city_23 rfl ?_
      refine k_ifnonnullN (pc := 24) C dX6_city_24 ?_
      refine k_aload_n (pc := 27) C dX6_city_27 rfl ?_
      refine k_iconst (pc := 28) (v := 0) C dX6_city_28 (by decide) ?_
      refine k_iconst (pc := 29) (v := 1) C dX6_city_29 (by decide) ?_
      refine k_call2 (pc := 30) C cv_X6_51 ct_X6_refuse k_in6 rfl (by decide) rfl (Nat.le_of_ble_eq_true rfl) dX6_city_30 ?_
      exact k_iret (pc := 33) C rfl (k_fIm (by unfold f_X6_city; rw [if_pos c7, if_neg c19]; try rfl)) dX6_city_33
  · skip
    refine k_aload_n (pc := 10) C dX6_city_10 rfl ?_
    refine k_iconst (pc := 11) (v := 0) C dX6_city_11 (by decide) ?_
    refine k_iload_n (pc := 12) C dX6_city_12 rfl ?_
    refine k_call2 (pc := 13) C cv_X6_51 ct_X6_refuse k_in6 rfl (by decide) rfl (Nat.le_of_ble_eq_true rfl) dX6_city_13 ?_
    exact k_iret (pc := 16) C rfl (k_fIm (by unfold f_X6_city; rw [if_neg c7]; try rfl)) dX6_city_16
