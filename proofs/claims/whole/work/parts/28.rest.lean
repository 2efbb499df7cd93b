/-! City: each for himself -/
def f_X2_mvB (mi : MemI) (g : Nat) (i2 : Nat) : Nat → Nat × Int32
  | 0 => ((f_X2_citizenAt mi g (mi (0, g, i2) 11)), f_X1_share mi g (f_X2_citizenAt mi g (mi (0, g, i2) 11)) (mi (1, g, (f_X2_citizenAt mi g (mi (0, g, i2) 11))) 14) (mi (0, g, i2) 3))
  | j + 1 =>
    if (f_X1_isOpen mi g j) = 0 then (((f_X2_mvB mi g i2 j).1), ((f_X2_mvB mi g i2 j).2))
    else if j = (f_X2_citizenAt mi g (mi (0, g, i2) 11)) then (((f_X2_mvB mi g i2 j).1), ((f_X2_mvB mi g i2 j).2))
      else if (f_X1_share mi g j ((mi (1, g, j) 14) + 1) (mi (0, g, i2) 3)) ≤ ((f_X2_mvB mi g i2 j).2) then (((f_X2_mvB mi g i2 j).1), ((f_X2_mvB mi g i2 j).2))
        else (j, f_X1_share mi g j ((mi (1, g, j) 14) + 1) (mi (0, g, i2) 3))
theorem f_X2_mvB_s (mi : MemI) (g : Nat) (i2 : Nat) (j : Nat) : f_X2_mvB mi g i2 (j + 1) =
    if (f_X1_isOpen mi g j) = 0 then (((f_X2_mvB mi g i2 j).1), ((f_X2_mvB mi g i2 j).2))
    else if j = (f_X2_citizenAt mi g (mi (0, g, i2) 11)) then (((f_X2_mvB mi g i2 j).1), ((f_X2_mvB mi g i2 j).2))
      else if (f_X1_share mi g j ((mi (1, g, j) 14) + 1) (mi (0, g, i2) 3)) ≤ ((f_X2_mvB mi g i2 j).2) then (((f_X2_mvB mi g i2 j).1), ((f_X2_mvB mi g i2 j).2))
        else (j, f_X1_share mi g j ((mi (1, g, j) 14) + 1) (mi (0, g, i2) 3)) := rfl
theorem f_X2_mvB_lt (mi : MemI) (g i2 : Nat) (h : f_X2_citizenAt mi g (mi (0, g, i2) 11) < 6) : ∀ j, j ≤ 6 → (f_X2_mvB mi g i2 j).1 < 6 := by
  intro j
  induction j with
  | zero => intro _; exact h
  | succ j ih =>
    intro hj
    have h1 := ih (by omega)
    rw [f_X2_mvB_s]
    repeat' split
    all_goals first | exact h1 | (show j < 6; omega)
def f_X2_moveOne (mi : MemI) (g : Nat) (i2 : Nat) : Int32 × MemI :=
  if f_X2_citizenAt mi g (mi (0, g, i2) 11) < 6 then if ((f_X2_mvB mi g i2 6).1) = (f_X2_citizenAt mi g (mi (0, g, i2) 11)) then (0, mi)
    else (1, k_ui (k_ui (k_ui mi (1, g, (f_X2_citizenAt mi g (mi (0, g, i2) 11))) 14 ((mi (1, g, (f_X2_citizenAt mi g (mi (0, g, i2) 11))) 14) - 1)) (1, g, ((f_X2_mvB mi g i2 6).1)) 14 (((k_ui mi (1, g, (f_X2_citizenAt mi g (mi (0, g, i2) 11))) 14 ((mi (1, g, (f_X2_citizenAt mi g (mi (0, g, i2) 11))) 14) - 1)) (1, g, ((f_X2_mvB mi g i2 6).1)) 14) + 1)) (0, g, i2) 11 ((k_ui (k_ui mi (1, g, (f_X2_citizenAt mi g (mi (0, g, i2) 11))) 14 ((mi (1, g, (f_X2_citizenAt mi g (mi (0, g, i2) 11))) 14) - 1)) (1, g, ((f_X2_mvB mi g i2 6).1)) 14 (((k_ui mi (1, g, (f_X2_citizenAt mi g (mi (0, g, i2) 11))) 14 ((mi (1, g, (f_X2_citizenAt mi g (mi (0, g, i2) 11))) 14) - 1)) (1, g, ((f_X2_mvB mi g i2 6).1)) 14) + 1)) (1, g, ((f_X2_mvB mi g i2 6).1)) 0))
  else (0, mi)
set_option maxRecDepth 100000 in
set_option maxHeartbeats 4000000 in
theorem ct_X2_moveOne {mi : MemI} {ml : MemL} {g : Nat} {i2 : Nat} (hg : g < 3) (hi2 : i2 < 6) : k_Ct k_KS k_R0 Mt_X2_moveOne 2 [vR (2, g, 0), vR (0, g, i2)] mi ml (k_rt (some (vI (f_X2_moveOne mi g i2).1)) (f_X2_moveOne mi g i2).2 ml) := by
  refine k_ofV (L0 := [vR (2, g, 0), vR (0, g, i2), vU, vU, vU, vU, vU, vU, vU, vU]) (by decide +kernel) (Nat.le_of_ble_eq_true rfl) rfl rfl ?_
  intro p l e s m args below meth c D cy ad bs C
  refine k_aload_n (pc := 0) C dX2_moveOne_0 rfl ?_
  refine k_aload_n (pc := 1) C dX2_moveOne_1 rfl ?_
  refine k_getI (pc := 2) C fl_X2_212 (k_in0 hg hi2) rfl rfl dX2_moveOne_2 ?_
  by_cases c5 : f_X2_citizenAt mi g (mi (0, g, i2) 11) < 6
  · skip
    refine k_call1 (pc := 5) C cv_X2_123 (ct_X2_citizenAt_s hg c5) (k_in2 hg) rfl (by decide) rfl (Nat.le_of_ble_eq_true rfl) dX2_moveOne_5 ?_
    refine k_astore_2 (pc := 8) C dX2_moveOne_8 rfl ?_
    refine k_aload_n (pc := 9) C dX2_moveOne_9 rfl ?_
    refine k_ifnonnullR (pc := 10) C 15 dX2_moveOne_10 (by decide) ?_
    refine k_aload_n (pc := 15) C dX2_moveOne_15 rfl ?_
    refine k_astore_3 (pc := 16) C dX2_moveOne_16 rfl ?_
    refine k_aload_n (pc := 17) C dX2_moveOne_17 rfl ?_
    refine k_aload_n (pc := 18) C dX2_moveOne_18 rfl ?_
    refine k_getI (pc := 19) C fl_X2_178 (k_in1 hg c5) rfl rfl dX2_moveOne_19 ?_
    refine k_aload_n (pc := 22) C dX2_moveOne_22 rfl ?_
    refine k_getI (pc := 23) C fl_X2_175 (k_in0 hg hi2) rfl rfl dX2_moveOne_23 ?_
    refine k_call2 (pc := 26) C cv_X2_221 (ct_X1_share hg c5) (k_in1 hg c5) rfl (by decide) rfl (Nat.le_of_ble_eq_true rfl) dX2_moveOne_26 ?_
    refine k_istore_4 (pc := 29) C dX2_moveOne_29 rfl ?_
    refine k_aload_n (pc := 31) C dX2_moveOne_31 rfl ?_
    refine k_getR (pc := 32) (r := some (11, g, 0)) C fl_X2_11 (k_in2 hg) rfl rfl rfl dX2_moveOne_32 ?_
    refine k_astore_5 (pc := 35) C dX2_moveOne_35 rfl ?_
    refine k_aload (pc := 37) C dX2_moveOne_37 rfl ?_
    refine k_alen (pc := 39) (v := 6) C (k_in11 hg) ⟨Nat.le_of_ble_eq_true rfl, Nat.le_of_ble_eq_true rfl⟩ rfl dX2_moveOne_39 ?_
    refine k_istore_6 (pc := 40) C dX2_moveOne_40 rfl ?_
    refine k_iconst (pc := 42) (v := 0) C dX2_moveOne_42 (by decide) ?_
    refine k_istore_7 (pc := 43) C dX2_moveOne_43 rfl ?_
    refine k_cast (L' := [vR (2, g, 0), vR (0, g, i2), vR (1, g, (f_X2_citizenAt mi g (mi (0, g, i2) 11))), vR (1, g, ((f_X2_mvB mi g i2 0).1)), vI ((f_X2_mvB mi g i2 0).2), vR (11, g, 0), vI 6, vI (nI 0), vU, vU]) (mi' := mi) rfl rfl rfl ?_
    refine k_down (P := fun j => k_V p l e (k_rm 2) s m args below meth c D cy ad bs k_KS k_R0 0 0 (k_End below D cy ad bs k_KS k_R0 (k_rt (some (vI (f_X2_moveOne mi g i2).1)) (f_X2_moveOne mi g i2).2 ml) args s) mi ml 45 [vR (2, g, 0), vR (0, g, i2), vR (1, g, (f_X2_citizenAt mi g (mi (0, g, i2) 11))), vR (1, g, ((f_X2_mvB mi g i2 j).1)), vI ((f_X2_mvB mi g i2 j).2), vR (11, g, 0), vI 6, vI (nI j), vU, vU] []) 6 ?_ (fun j hj hk => ?_)
    · skip
      have hKe : (f_X2_mvB mi g i2 6).1 < 6 := f_X2_mvB_lt mi g i2 c5 6 (by omega)
      refine k_iload (pc := 45) C dX2_moveOne_45 rfl ?_
      refine k_iload (pc := 47) C dX2_moveOne_47 rfl ?_
      refine k_icmp_geT (pc := 49) C 114 dX2_moveOne_49 (by decide) (by decide) ?_
      refine k_aload_n (pc := 114) C dX2_moveOne_114 rfl ?_
      refine k_aload_n (pc := 115) C dX2_moveOne_115 rfl ?_
      refine k_acmpne (pc := 116) (cnd := ((f_X2_mvB mi g i2 6).1) = (f_X2_citizenAt mi g (mi (0, g, i2) 11))) C 121 dX2_moveOne_116 (by decide) (k_in1 hg hKe) (k_in1 hg c5) (by simp) (fun c116 => ?_) (fun c116 => ?_)
      · skip
        refine k_aload_n (pc := 121) C dX2_moveOne_121 rfl ?_
        refine k_dup (pc := 122) C dX2_moveOne_122 rfl ?_
        refine k_getI (pc := 123) C fl_X2_178 (k_in1 hg c5) rfl rfl dX2_moveOne_123 ?_
        refine k_iconst (pc := 126) (v := 1) C dX2_moveOne_126 (by decide) ?_
        refine k_isub (pc := 127) C dX2_moveOne_127 ?_
        refine k_putI (pc := 128) C pl_X2_178 (k_in1 hg c5) rfl rfl dX2_moveOne_128 ?_
        refine k_aload_n (pc := 131) C dX2_moveOne_131 rfl ?_
        refine k_dup (pc := 132) C dX2_moveOne_132 rfl ?_
        refine k_getI (pc := 133) C fl_X2_178 (k_in1 hg hKe) rfl rfl dX2_moveOne_133 ?_
        refine k_iconst (pc := 136) (v := 1) C dX2_moveOne_136 (by decide) ?_
        refine k_iadd (pc := 137) C dX2_moveOne_137 ?_
        refine k_putI (pc := 138) C pl_X2_178 (k_in1 hg hKe) rfl rfl dX2_moveOne_138 ?_
        refine k_aload_n (pc := 141) C dX2_moveOne_141 rfl ?_
        refine k_aload_n (pc := 142) C dX2_moveOne_142 rfl ?_
        refine k_getI (pc := 143) C fl_X2_169 (k_in1 hg hKe) rfl rfl dX2_moveOne_143 ?_
        refine k_putI (pc := 146) C pl_X2_212 (k_in0 hg hi2) rfl rfl dX2_moveOne_146 ?_
        refine k_iconst (pc := 149) (v := 1) C dX2_moveOne_149 (by decide) ?_
        exact k_zret (pc := 150) C rfl (Or.inr rfl) (k_fIm (by unfold f_X2_moveOne; rw [if_pos c5, if_neg c116]; try rfl)) dX2_moveOne_150
      · skip
        refine k_iconst (pc := 119) (v := 0) C dX2_moveOne_119 (by decide) ?_
        exact k_zret (pc := 120) C rfl (Or.inl rfl) (k_fIm (by unfold f_X2_moveOne; rw [if_pos c5, if_pos c116]; try rfl)) dX2_moveOne_120
    · skip
      try dsimp only at hk
      have hKj : (f_X2_mvB mi g i2 j).1 < 6 := f_X2_mvB_lt mi g i2 c5 j (by omega)
      refine k_iload (pc := 45) C dX2_moveOne_45 rfl ?_
      refine k_iload (pc := 47) C dX2_moveOne_47 rfl ?_
      refine k_icmp_geF (pc := 49) C 114 dX2_moveOne_49 (by decide) (k_nge (n := 6) rfl (by decide) hj) ?_
      refine k_aload (pc := 52) C dX2_moveOne_52 rfl ?_
      refine k_iload (pc := 54) C dX2_moveOne_54 rfl ?_
      refine k_aaldX (pc := 56) (j := j) (kr := (1, g, j)) C (nI_clamp (by omega)) (k_in11 hg) (Or.inr (Or.inl rfl)) (vp_in_nI (show _ < (6 : Nat) by omega) (show (6 : Nat) < 2 ^ 31 by decide)) rfl dX2_moveOne_56 ?_
      refine k_astore_8 (pc := 57) C dX2_moveOne_57 rfl ?_
      refine k_aload (pc := 59) C dX2_moveOne_59 rfl ?_
      refine k_call0 (pc := 61) C cv_X2_54 (ct_X1_isOpen hg hj) (k_in1 hg hj) rfl (by decide) rfl (Nat.le_of_ble_eq_true rfl) dX2_moveOne_61 ?_
      refine k_if_eq (pc := 64) C 108 dX2_moveOne_64 (by decide) (fun c64 => ?_) (fun c64 => ?_)
      · skip
        refine k_iinc_7 (pc := 108) (v := nI (j + 1)) C dX2_moveOne_108 (k_inc j) rfl ?_
        refine k_goto (pc := 111) C 45 dX2_moveOne_111 (by decide) ?_
        refine k_drop_8 ?_
        exact k_cast (by rw [f_X2_mvB_s, if_pos c64]) rfl rfl hk
      · skip
        refine k_aload (pc := 67) C dX2_moveOne_67 rfl ?_
        refine k_aload_n (pc := 69) C dX2_moveOne_69 rfl ?_
        refine k_acmpne (pc := 70) (cnd := j = (f_X2_citizenAt mi g (mi (0, g, i2) 11))) C 76 dX2_moveOne_70 (by decide) (k_in1 hg hj) (k_in1 hg c5) (by simp) (fun c70 => ?_) (fun c70 => ?_)
        · skip
          refine k_aload (pc := 76) C dX2_moveOne_76 rfl ?_
          refine k_aload (pc := 78) C dX2_moveOne_78 rfl ?_
          refine k_getI (pc := 80) C fl_X2_178 (k_in1 hg hj) rfl rfl dX2_moveOne_80 ?_
          refine k_iconst (pc := 83) (v := 1) C dX2_moveOne_83 (by decide) ?_
          refine k_iadd (pc := 84) C dX2_moveOne_84 ?_
          refine k_aload_n (pc := 85) C dX2_moveOne_85 rfl ?_
          refine k_getI (pc := 86) C fl_X2_175 (k_in0 hg hi2) rfl rfl dX2_moveOne_86 ?_
          refine k_call2 (pc := 89) C cv_X2_221 (ct_X1_share hg hj) (k_in1 hg hj) rfl (by decide) rfl (Nat.le_of_ble_eq_true rfl) dX2_moveOne_89 ?_
          refine k_istore_9 (pc := 92) C dX2_moveOne_92 rfl ?_
          refine k_iload (pc := 94) C dX2_moveOne_94 rfl ?_
          refine k_iload (pc := 96) C dX2_moveOne_96 rfl ?_
          refine k_icmp_le (pc := 98) C 108 dX2_moveOne_98 (by decide) (fun c98 => ?_) (fun c98 => ?_)
          · skip
            refine k_iinc_7 (pc := 108) (v := nI (j + 1)) C dX2_moveOne_108 (k_inc j) rfl ?_
            refine k_goto (pc := 111) C 45 dX2_moveOne_111 (by decide) ?_
            refine k_drop_8 ?_
            refine k_drop_9 ?_
            exact k_cast (by rw [f_X2_mvB_s, if_neg c64, if_neg c70, if_pos c98]) rfl rfl hk
          · skip
            refine k_iload (pc := 101) C dX2_moveOne_101 rfl ?_
            refine k_istore_4 (pc := 103) C dX2_moveOne_103 rfl ?_
            refine k_aload (pc := 105) C dX2_moveOne_105 rfl ?_
            refine k_astore_3 (pc := 107) C dX2_moveOne_107 rfl ?_
            refine k_iinc_7 (pc := 108) (v := nI (j + 1)) C dX2_moveOne_108 (k_inc j) rfl ?_
            refine k_goto (pc := 111) C 45 dX2_moveOne_111 (by decide) ?_
            refine k_drop_8 ?_
            refine k_drop_9 ?_
            exact k_cast (by rw [f_X2_mvB_s, if_neg c64, if_neg c70, if_neg c98]) rfl rfl hk
        · skip
          refine k_goto (pc := 73) C 108 dX2_moveOne_73 (by decide) ?_
          refine k_iinc_7 (pc := 108) (v := nI (j + 1)) C dX2_moveOne_108 (k_inc j) rfl ?_
          refine k_goto (pc := 111) C 45 dX2_moveOne_111 (by decide) ?_
          refine k_drop_8 ?_
          exact k_cast (by rw [f_X2_mvB_s, if_neg c64, if_pos c70]) rfl rfl hk
  · skip
    refine k_call1 (pc := 5) C cv_X2_123 (ct_X2_citizenAt_n hg c5) (k_in2 hg) rfl (by decide) rfl (Nat.le_of_ble_eq_true rfl) dX2_moveOne_5 ?_
    refine k_astore_2 (pc := 8) C dX2_moveOne_8 rfl ?_
    refine k_aload_n (pc := 9) C dX2_moveOne_9 rfl ?_
    refine k_ifnonnullN (pc := 10) C dX2_moveOne_10 ?_
    refine k_iconst (pc := 13) (v := 0) C dX2_moveOne_13 (by decide) ?_
    exact k_zret (pc := 14) C rfl (Or.inl rfl) (k_fIm (by unfold f_X2_moveOne; rw [if_neg c5]; try rfl)) dX2_moveOne_14
theorem z_X2_moveOne {mi : MemI} {g i2 : Nat} : (f_X2_moveOne mi g i2).1 = 0 ∨ (f_X2_moveOne mi g i2).1 = 1 := by
  unfold f_X2_moveOne
  repeat' (first | split | exact Or.inl rfl | exact Or.inr rfl)
def f_X2_mvA (mi : MemI) (g : Nat) : Nat → Int32 × MemI
  | 0 => (0, mi)
  | j + 1 =>
    if (f_X0_comes ((f_X2_mvA mi g j).2) g j) = 0 then (((f_X2_mvA mi g j).1), (f_X2_mvA mi g j).2)
    else if ((f_X2_moveOne ((f_X2_mvA mi g j).2) g j).1) = 0 then (((f_X2_mvA mi g j).1), (f_X2_moveOne ((f_X2_mvA mi g j).2) g j).2)
      else (1, (f_X2_moveOne ((f_X2_mvA mi g j).2) g j).2)
theorem f_X2_mvA_s (mi : MemI) (g : Nat) (j : Nat) : f_X2_mvA mi g (j + 1) =
    if (f_X0_comes ((f_X2_mvA mi g j).2) g j) = 0 then (((f_X2_mvA mi g j).1), (f_X2_mvA mi g j).2)
    else if ((f_X2_moveOne ((f_X2_mvA mi g j).2) g j).1) = 0 then (((f_X2_mvA mi g j).1), (f_X2_moveOne ((f_X2_mvA mi g j).2) g j).2)
      else (1, (f_X2_moveOne ((f_X2_mvA mi g j).2) g j).2) := rfl
theorem f_X2_mvA_z (mi : MemI) (g : Nat) : ∀ j, (f_X2_mvA mi g j).1 = 0 ∨ (f_X2_mvA mi g j).1 = 1 := by
  intro j
  induction j with
  | zero => exact Or.inl rfl
  | succ j ih =>
    rw [f_X2_mvA_s]
    repeat' split
    all_goals first | exact ih | exact Or.inr rfl
def f_X2_moveAll (mi : MemI) (g : Nat) : Int32 × MemI :=
  (((f_X2_mvA mi g 6).1), (f_X2_mvA mi g 6).2)
set_option maxRecDepth 100000 in
set_option maxHeartbeats 4000000 in
theorem ct_X2_moveAll {mi : MemI} {ml : MemL} {g : Nat} (hg : g < 3) : k_Ct k_KS k_R0 Mt_X2_moveAll 3 [vR (2, g, 0)] mi ml (k_rt (some (vI (f_X2_moveAll mi g).1)) (f_X2_moveAll mi g).2 ml) := by
  refine k_ofV (L0 := [vR (2, g, 0), vU, vU, vU, vU, vU]) (by decide +kernel) (Nat.le_of_ble_eq_true rfl) rfl rfl ?_
  intro p l e s m args below meth c D cy ad bs C
  refine k_iconst (pc := 0) (v := 0) C dX2_moveAll_0 (by decide) ?_
  refine k_istore_1 (pc := 1) C dX2_moveAll_1 rfl ?_
  refine k_aload_n (pc := 2) C dX2_moveAll_2 rfl ?_
  refine k_getR (pc := 3) (r := some (10, g, 0)) C fl_X2_19 (k_in2 hg) rfl rfl rfl dX2_moveAll_3 ?_
  refine k_astore_2 (pc := 6) C dX2_moveAll_6 rfl ?_
  refine k_aload_n (pc := 7) C dX2_moveAll_7 rfl ?_
  refine k_alen (pc := 8) (v := 6) C (k_in10 hg) ⟨Nat.le_of_ble_eq_true rfl, Nat.le_of_ble_eq_true rfl⟩ rfl dX2_moveAll_8 ?_
  refine k_istore_3 (pc := 9) C dX2_moveAll_9 rfl ?_
  refine k_iconst (pc := 10) (v := 0) C dX2_moveAll_10 (by decide) ?_
  refine k_istore_4 (pc := 11) C dX2_moveAll_11 rfl ?_
  refine k_cast (L' := [vR (2, g, 0), vI ((f_X2_mvA mi g 0).1), vR (10, g, 0), vI 6, vI (nI 0), vU]) (mi' := (f_X2_mvA mi g 0).2) rfl rfl rfl ?_
  refine k_down (P := fun j => k_V p l e (k_rm 3) s m args below meth c D cy ad bs k_KS k_R0 0 0 (k_End below D cy ad bs k_KS k_R0 (k_rt (some (vI (f_X2_moveAll mi g).1)) (f_X2_moveAll mi g).2 ml) args s) ((f_X2_mvA mi g j).2) ml 13 [vR (2, g, 0), vI ((f_X2_mvA mi g j).1), vR (10, g, 0), vI 6, vI (nI j), vU] []) 6 ?_ (fun j hj hk => ?_)
  · skip
    refine k_iload (pc := 13) C dX2_moveAll_13 rfl ?_
    refine k_iload_n (pc := 15) C dX2_moveAll_15 rfl ?_
    refine k_icmp_geT (pc := 16) C 50 dX2_moveAll_16 (by decide) (by decide) ?_
    refine k_iload_n (pc := 50) C dX2_moveAll_50 rfl ?_
    exact k_zret (pc := 51) C rfl (f_X2_mvA_z mi g 6) (k_fIm rfl) dX2_moveAll_51
  · skip
    try dsimp only at hk
    refine k_iload (pc := 13) C dX2_moveAll_13 rfl ?_
    refine k_iload_n (pc := 15) C dX2_moveAll_15 rfl ?_
    refine k_icmp_geF (pc := 16) C 50 dX2_moveAll_16 (by decide) (k_nge (n := 6) rfl (by decide) hj) ?_
    refine k_aload_n (pc := 19) C dX2_moveAll_19 rfl ?_
    refine k_iload (pc := 20) C dX2_moveAll_20 rfl ?_
    refine k_aaldX (pc := 22) (j := j) (kr := (0, g, j)) C (nI_clamp (by omega)) (k_in10 hg) (Or.inl rfl) (vp_in_nI (show _ < (6 : Nat) by omega) (show (6 : Nat) < 2 ^ 31 by decide)) rfl dX2_moveAll_22 ?_
    refine k_astore_5 (pc := 23) C dX2_moveAll_23 rfl ?_
    refine k_aload (pc := 25) C dX2_moveAll_25 rfl ?_
    refine k_call0 (pc := 27) C cv_X2_62 (ct_X0_comes hg hj) (k_in0 hg hj) rfl (by decide) rfl (Nat.le_of_ble_eq_true rfl) dX2_moveAll_27 ?_
    refine k_if_eq (pc := 30) C 44 dX2_moveAll_30 (by decide) (fun c30 => ?_) (fun c30 => ?_)
    · skip
      refine k_iinc_4 (pc := 44) (v := nI (j + 1)) C dX2_moveAll_44 (k_inc j) rfl ?_
      refine k_goto (pc := 47) C 13 dX2_moveAll_47 (by decide) ?_
      refine k_drop_5 ?_
      exact k_cast (by rw [f_X2_mvA_s, if_pos c30]) (by rw [f_X2_mvA_s, if_pos c30]) rfl hk
    · skip
      refine k_aload_n (pc := 33) C dX2_moveAll_33 rfl ?_
      refine k_aload (pc := 34) C dX2_moveAll_34 rfl ?_
      refine k_call1 (pc := 36) C cv_X2_218 (ct_X2_moveOne hg hj) (k_in2 hg) rfl (by decide) rfl (Nat.le_of_ble_eq_true rfl) dX2_moveAll_36 ?_
      refine k_if_eq (pc := 39) C 44 dX2_moveAll_39 (by decide) (fun c39 => ?_) (fun c39 => ?_)
      · skip
        refine k_iinc_4 (pc := 44) (v := nI (j + 1)) C dX2_moveAll_44 (k_inc j) rfl ?_
        refine k_goto (pc := 47) C 13 dX2_moveAll_47 (by decide) ?_
        refine k_drop_5 ?_
        exact k_cast (by rw [f_X2_mvA_s, if_neg c30, if_pos c39]) (by rw [f_X2_mvA_s, if_neg c30, if_pos c39]) rfl hk
      · skip
        refine k_iconst (pc := 42) (v := 1) C dX2_moveAll_42 (by decide) ?_
        refine k_istore_1 (pc := 43) C dX2_moveAll_43 rfl ?_
        refine k_iinc_4 (pc := 44) (v := nI (j + 1)) C dX2_moveAll_44 (k_inc j) rfl ?_
        refine k_goto (pc := 47) C 13 dX2_moveAll_47 (by decide) ?_
        refine k_drop_5 ?_
        exact k_cast (by rw [f_X2_mvA_s, if_neg c30, if_neg c39]) (by rw [f_X2_mvA_s, if_neg c30, if_neg c39]) rfl hk
def f_X2_crR (g : Nat) : Nat → Nat → MemI → Int32 × MemI
  | 0, _, m0 => ((-1), m0)
  | u + 1, j, m0 => if (f_X2_moveAll m0 g).1 = 0 then (nI j, (f_X2_moveAll m0 g).2) else f_X2_crR g u (j + 1) (f_X2_moveAll m0 g).2
theorem f_X2_crR_s (g u j : Nat) (m0 : MemI) : f_X2_crR g (u + 1) j m0 = if (f_X2_moveAll m0 g).1 = 0 then (nI j, (f_X2_moveAll m0 g).2) else f_X2_crR g u (j + 1) (f_X2_moveAll m0 g).2 := rfl
def f_X2_cr2 (mi : MemI) (g w : Nat) : Nat → MemI
  | 0 => mi
  | j + 1 =>
    if (f_X0_comes (f_X2_cr2 mi g w j) g j) = 0 then f_X2_cr2 mi g w j
    else k_ui (k_ui (f_X2_cr2 mi g w j) (0, g, j) 11 ((f_X2_cr2 mi g w j) (1, g, w) 0)) (1, g, w) 14 (((k_ui (f_X2_cr2 mi g w j) (0, g, j) 11 ((f_X2_cr2 mi g w j) (1, g, w) 0)) (1, g, w) 14) + 1)
theorem f_X2_cr2_s (mi : MemI) (g w : Nat) (j : Nat) : f_X2_cr2 mi g w (j + 1) =
    if (f_X0_comes (f_X2_cr2 mi g w j) g j) = 0 then f_X2_cr2 mi g w j
    else k_ui (k_ui (f_X2_cr2 mi g w j) (0, g, j) 11 ((f_X2_cr2 mi g w j) (1, g, w) 0)) (1, g, w) 14 (((k_ui (f_X2_cr2 mi g w j) (0, g, j) 11 ((f_X2_cr2 mi g w j) (1, g, w) 0)) (1, g, w) 14) + 1) := rfl
def f_X2_cr1 (mi : MemI) (g : Nat) : Nat → MemI
  | 0 => mi
  | j + 1 =>
    k_ui (f_X2_cr1 mi g j) (1, g, j) 14 0
theorem f_X2_cr1_s (mi : MemI) (g : Nat) (j : Nat) : f_X2_cr1 mi g (j + 1) =
    k_ui (f_X2_cr1 mi g j) (1, g, j) 14 0 := rfl
def f_X2_comeToRest (mi : MemI) (g : Nat) : Int32 × MemI :=
  if f_X2_openAt mi g 0 < 6 then ((f_X2_crR g 21 0 (f_X2_cr2 (f_X2_cr1 mi g 6) g (f_X2_openAt mi g 0) 6)).1, (f_X2_crR g 21 0 (f_X2_cr2 (f_X2_cr1 mi g 6) g (f_X2_openAt mi g 0) 6)).2)
  else ((-1), mi)
set_option maxRecDepth 100000 in
set_option maxHeartbeats 4000000 in
theorem ct_X2_comeToRest {mi : MemI} {ml : MemL} {g : Nat} (hg : g < 3) : k_Ct k_KS k_R0 Mt_X2_comeToRest 4 [vR (2, g, 0)] mi ml (k_rt (some (vI (f_X2_comeToRest mi g).1)) (f_X2_comeToRest mi g).2 ml) := by
  refine k_ofV (L0 := [vR (2, g, 0), vU, vU, vU, vU, vU]) (by decide +kernel) (Nat.le_of_ble_eq_true rfl) rfl rfl ?_
  intro p l e s m args below meth c D cy ad bs C
  refine k_aload_n (pc := 0) C dX2_comeToRest_0 rfl ?_
  refine k_iconst (pc := 1) (v := 0) C dX2_comeToRest_1 (by decide) ?_
  by_cases c2 : f_X2_openAt mi g 0 < 6
  · skip
    refine k_call1 (pc := 2) C cv_X2_112 (ct_X2_openAt_s hg c2) (k_in2 hg) rfl (by decide) rfl (Nat.le_of_ble_eq_true rfl) dX2_comeToRest_2 ?_
    refine k_astore_1 (pc := 5) C dX2_comeToRest_5 rfl ?_
    refine k_aload_n (pc := 6) C dX2_comeToRest_6 rfl ?_
    refine k_ifnonnullR (pc := 7) C 12 dX2_comeToRest_7 (by decide) ?_
    refine k_aload_n (pc := 12) C dX2_comeToRest_12 rfl ?_
    refine k_getR (pc := 13) (r := some (11, g, 0)) C fl_X2_11 (k_in2 hg) rfl rfl rfl dX2_comeToRest_13 ?_
    refine k_astore_2 (pc := 16) C dX2_comeToRest_16 rfl ?_
    refine k_aload_n (pc := 17) C dX2_comeToRest_17 rfl ?_
    refine k_alen (pc := 18) (v := 6) C (k_in11 hg) ⟨Nat.le_of_ble_eq_true rfl, Nat.le_of_ble_eq_true rfl⟩ rfl dX2_comeToRest_18 ?_
    refine k_istore_3 (pc := 19) C dX2_comeToRest_19 rfl ?_
    refine k_iconst (pc := 20) (v := 0) C dX2_comeToRest_20 (by decide) ?_
    refine k_istore_4 (pc := 21) C dX2_comeToRest_21 rfl ?_
    refine k_cast (L' := [vR (2, g, 0), vR (1, g, (f_X2_openAt mi g 0)), vR (11, g, 0), vI 6, vI (nI 0), vU]) (mi' := f_X2_cr1 mi g 0) rfl rfl rfl ?_
    refine k_down (P := fun j => k_V p l e (k_rm 4) s m args below meth c D cy ad bs k_KS k_R0 0 0 (k_End below D cy ad bs k_KS k_R0 (k_rt (some (vI (f_X2_comeToRest mi g).1)) (f_X2_comeToRest mi g).2 ml) args s) (f_X2_cr1 mi g j) ml 23 [vR (2, g, 0), vR (1, g, (f_X2_openAt mi g 0)), vR (11, g, 0), vI 6, vI (nI j), vU] []) 6 ?_ (fun j hj hk => ?_)
    · skip
      refine k_iload (pc := 23) C dX2_comeToRest_23 rfl ?_
      refine k_iload_n (pc := 25) C dX2_comeToRest_25 rfl ?_
      refine k_icmp_geT (pc := 26) C 47 dX2_comeToRest_26 (by decide) (by decide) ?_
      refine k_aload_n (pc := 47) C dX2_comeToRest_47 rfl ?_
      refine k_getR (pc := 48) (r := some (10, g, 0)) C fl_X2_19 (k_in2 hg) rfl rfl rfl dX2_comeToRest_48 ?_
      refine k_astore_2 (pc := 51) C dX2_comeToRest_51 rfl ?_
      refine k_aload_n (pc := 52) C dX2_comeToRest_52 rfl ?_
      refine k_alen (pc := 53) (v := 6) C (k_in10 hg) ⟨Nat.le_of_ble_eq_true rfl, Nat.le_of_ble_eq_true rfl⟩ rfl dX2_comeToRest_53 ?_
      refine k_istore_3 (pc := 54) C dX2_comeToRest_54 rfl ?_
      refine k_iconst (pc := 55) (v := 0) C dX2_comeToRest_55 (by decide) ?_
      refine k_istore_4 (pc := 56) C dX2_comeToRest_56 rfl ?_
      refine k_cast (L' := [vR (2, g, 0), vR (1, g, (f_X2_openAt mi g 0)), vR (10, g, 0), vI 6, vI (nI 0), vU]) (mi' := f_X2_cr2 (f_X2_cr1 mi g 6) g (f_X2_openAt mi g 0) 0) rfl rfl rfl ?_
      refine k_down (P := fun j => k_V p l e (k_rm 4) s m args below meth c D cy ad bs k_KS k_R0 0 0 (k_End below D cy ad bs k_KS k_R0 (k_rt (some (vI (f_X2_comeToRest mi g).1)) (f_X2_comeToRest mi g).2 ml) args s) (f_X2_cr2 (f_X2_cr1 mi g 6) g (f_X2_openAt mi g 0) j) ml 58 [vR (2, g, 0), vR (1, g, (f_X2_openAt mi g 0)), vR (10, g, 0), vI 6, vI (nI j), vU] []) 6 ?_ (fun j hj hk => ?_)
      · skip
        refine k_iload (pc := 58) C dX2_comeToRest_58 rfl ?_
        refine k_iload_n (pc := 60) C dX2_comeToRest_60 rfl ?_
        refine k_icmp_geT (pc := 61) C 103 dX2_comeToRest_61 (by decide) (by decide) ?_
        refine k_iconst (pc := 103) (v := 0) C dX2_comeToRest_103 (by decide) ?_
        refine k_istore_2 (pc := 104) C dX2_comeToRest_104 rfl ?_
        rw [show f_X2_comeToRest mi g = f_X2_crR g 21 0 (f_X2_cr2 (f_X2_cr1 mi g 6) g (f_X2_openAt mi g 0) 6) by unfold f_X2_comeToRest; rw [if_pos c2]]
        refine k_drop_1 ?_
        refine k_drop_3 ?_
        refine k_drop_4 ?_
        have hloop : ∀ (u j : Nat) (m0 : MemI), j + u = 21 → f_X2_crR g u j m0 = f_X2_crR g 21 0 (f_X2_cr2 (f_X2_cr1 mi g 6) g (f_X2_openAt mi g 0) 6) → k_V p l e (k_rm 4) s m args below meth c D cy ad bs k_KS k_R0 0 0 (k_End below D cy ad bs k_KS k_R0 (k_rt (some (vI (f_X2_crR g 21 0 (f_X2_cr2 (f_X2_cr1 mi g 6) g (f_X2_openAt mi g 0) 6)).1)) (f_X2_crR g 21 0 (f_X2_cr2 (f_X2_cr1 mi g 6) g (f_X2_openAt mi g 0) 6)).2 ml) args s) m0 ml 105 [vR (2, g, 0), vU, vI (nI j), vU, vU, vU] [] := by
          intro u
          induction u with
          | zero =>
            intro j m0 hjn hres
            refine k_iload_n (pc := 105) C dX2_comeToRest_105 rfl ?_
            refine k_bipush (pc := 106) (v := 20) C dX2_comeToRest_106 (by decide) ?_
            refine k_icmp_gtT (pc := 108) C 126 dX2_comeToRest_108 (by decide) (nI_lt (a := 20) (show 20 < j by omega) (by omega)) ?_
            refine k_iconst (pc := 126) (v := (-1)) C dX2_comeToRest_126 (by decide) ?_
            exact k_iret (pc := 127) C rfl (k_fIm (by rw [← hres]; rfl)) dX2_comeToRest_127
          | succ u ih =>
            intro j m0 hjn hres
            refine k_iload_n (pc := 105) C dX2_comeToRest_105 rfl ?_
            refine k_bipush (pc := 106) (v := 20) C dX2_comeToRest_106 (by decide) ?_
            refine k_icmp_gtF (pc := 108) C 126 dX2_comeToRest_108 (by decide) (nI_nlt (a := 20) (show j ≤ 20 by omega) (by omega)) ?_
            refine k_aload_n (pc := 111) C dX2_comeToRest_111 rfl ?_
            refine k_call0 (pc := 112) C cv_X2_215 (ct_X2_moveAll hg) (k_in2 hg) rfl (by decide) rfl (Nat.le_of_ble_eq_true rfl) dX2_comeToRest_112 ?_
            refine k_if_ne (pc := 115) C 120 dX2_comeToRest_115 (by decide) (fun c115 => ?_) (fun c115 => ?_)
            · skip
              refine k_iinc_2 (pc := 120) (v := nI (j + 1)) C dX2_comeToRest_120 (k_inc j) rfl ?_
              refine k_goto (pc := 123) C 105 dX2_comeToRest_123 (by decide) ?_
              exact ih (j + 1) ((f_X2_moveAll m0 g).2) (by omega) (by rw [← hres, f_X2_crR_s, if_neg c115])
            · skip
              refine k_iload_n (pc := 118) C dX2_comeToRest_118 rfl ?_
              exact k_iret (pc := 119) C rfl (k_fIm (by rw [← hres, f_X2_crR_s, if_pos c115])) dX2_comeToRest_119
        exact hloop 21 0 (f_X2_cr2 (f_X2_cr1 mi g 6) g (f_X2_openAt mi g 0) 6) (by omega) rfl
      · skip
        try dsimp only at hk
        refine k_iload (pc := 58) C dX2_comeToRest_58 rfl ?_
        refine k_iload_n (pc := 60) C dX2_comeToRest_60 rfl ?_
        refine k_icmp_geF (pc := 61) C 103 dX2_comeToRest_61 (by decide) (k_nge (n := 6) rfl (by decide) hj) ?_
        refine k_aload_n (pc := 64) C dX2_comeToRest_64 rfl ?_
        refine k_iload (pc := 65) C dX2_comeToRest_65 rfl ?_
        refine k_aaldX (pc := 67) (j := j) (kr := (0, g, j)) C (nI_clamp (by omega)) (k_in10 hg) (Or.inl rfl) (vp_in_nI (show _ < (6 : Nat) by omega) (show (6 : Nat) < 2 ^ 31 by decide)) rfl dX2_comeToRest_67 ?_
        refine k_astore_5 (pc := 68) C dX2_comeToRest_68 rfl ?_
        refine k_aload (pc := 70) C dX2_comeToRest_70 rfl ?_
        refine k_call0 (pc := 72) C cv_X2_62 (ct_X0_comes hg hj) (k_in0 hg hj) rfl (by decide) rfl (Nat.le_of_ble_eq_true rfl) dX2_comeToRest_72 ?_
        refine k_if_eq (pc := 75) C 97 dX2_comeToRest_75 (by decide) (fun c75 => ?_) (fun c75 => ?_)
        · skip
          refine k_iinc_4 (pc := 97) (v := nI (j + 1)) C dX2_comeToRest_97 (k_inc j) rfl ?_
          refine k_goto (pc := 100) C 58 dX2_comeToRest_100 (by decide) ?_
          refine k_drop_5 ?_
          exact k_cast rfl (by rw [f_X2_cr2_s, if_pos c75]) rfl hk
        · skip
          refine k_aload (pc := 78) C dX2_comeToRest_78 rfl ?_
          refine k_aload_n (pc := 80) C dX2_comeToRest_80 rfl ?_
          refine k_getI (pc := 81) C fl_X2_169 (k_in1 hg c2) rfl rfl dX2_comeToRest_81 ?_
          refine k_putI (pc := 84) C pl_X2_212 (k_in0 hg hj) rfl rfl dX2_comeToRest_84 ?_
          refine k_aload_n (pc := 87) C dX2_comeToRest_87 rfl ?_
          refine k_dup (pc := 88) C dX2_comeToRest_88 rfl ?_
          refine k_getI (pc := 89) C fl_X2_178 (k_in1 hg c2) rfl rfl dX2_comeToRest_89 ?_
          refine k_iconst (pc := 92) (v := 1) C dX2_comeToRest_92 (by decide) ?_
          refine k_iadd (pc := 93) C dX2_comeToRest_93 ?_
          refine k_putI (pc := 94) C pl_X2_178 (k_in1 hg c2) rfl rfl dX2_comeToRest_94 ?_
          refine k_iinc_4 (pc := 97) (v := nI (j + 1)) C dX2_comeToRest_97 (k_inc j) rfl ?_
          refine k_goto (pc := 100) C 58 dX2_comeToRest_100 (by decide) ?_
          refine k_drop_5 ?_
          exact k_cast rfl (by rw [f_X2_cr2_s, if_neg c75]) rfl hk
    · skip
      try dsimp only at hk
      refine k_iload (pc := 23) C dX2_comeToRest_23 rfl ?_
      refine k_iload_n (pc := 25) C dX2_comeToRest_25 rfl ?_
      refine k_icmp_geF (pc := 26) C 47 dX2_comeToRest_26 (by decide) (k_nge (n := 6) rfl (by decide) hj) ?_
      refine k_aload_n (pc := 29) C dX2_comeToRest_29 rfl ?_
      refine k_iload (pc := 30) C dX2_comeToRest_30 rfl ?_
      refine k_aaldX (pc := 32) (j := j) (kr := (1, g, j)) C (nI_clamp (by omega)) (k_in11 hg) (Or.inr (Or.inl rfl)) (vp_in_nI (show _ < (6 : Nat) by omega) (show (6 : Nat) < 2 ^ 31 by decide)) rfl dX2_comeToRest_32 ?_
      refine k_astore_5 (pc := 33) C dX2_comeToRest_33 rfl ?_
      refine k_aload (pc := 35) C dX2_comeToRest_35 rfl ?_
      refine k_iconst (pc := 37) (v := 0) C dX2_comeToRest_37 (by decide) ?_
      refine k_putI (pc := 38) C pl_X2_178 (k_in1 hg hj) rfl rfl dX2_comeToRest_38 ?_
      refine k_iinc_4 (pc := 41) (v := nI (j + 1)) C dX2_comeToRest_41 (k_inc j) rfl ?_
      refine k_goto (pc := 44) C 23 dX2_comeToRest_44 (by decide) ?_
      refine k_drop_5 ?_
      exact k_cast rfl (by rw [f_X2_cr1_s]) rfl hk
  · skip
    refine k_call1 (pc := 2) C cv_X2_112 (ct_X2_openAt_n hg c2) (k_in2 hg) rfl (by decide) rfl (Nat.le_of_ble_eq_true rfl) dX2_comeToRest_2 ?_
    refine k_astore_1 (pc := 5) C dX2_comeToRest_5 rfl ?_
    refine k_aload_n (pc := 6) C dX2_comeToRest_6 rfl ?_
    refine k_ifnonnullN (pc := 7) C dX2_comeToRest_7 ?_
    refine k_iconst (pc := 10) (v := (-1)) C dX2_comeToRest_10 (by decide) ?_
    exact k_iret (pc := 11) C rfl  (k_fIm (by unfold f_X2_comeToRest; rw [if_neg c2]; try rfl)) dX2_comeToRest_11
