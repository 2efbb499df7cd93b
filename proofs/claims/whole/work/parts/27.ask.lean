/-! City: mornings, draws, questions of a morning -/
def f_X2_passN (mi : MemI) (g : Nat) : Nat → Int32 × MemI
  | 0 => (0, mi)
  | j + 1 =>
    (((f_X2_passN mi g j).1) + ((f_X2_passMorning ((f_X2_passN mi g j).2) g).1), (f_X2_passMorning ((f_X2_passN mi g j).2) g).2)
theorem f_X2_passN_s (mi : MemI) (g : Nat) (j : Nat) : f_X2_passN mi g (j + 1) =
    (((f_X2_passN mi g j).1) + ((f_X2_passMorning ((f_X2_passN mi g j).2) g).1), (f_X2_passMorning ((f_X2_passN mi g j).2) g).2) := rfl
def f_X2_passMornings (mi : MemI) (g : Nat) (N : Nat) : Int32 × MemI :=
  (((f_X2_passN mi g N).1), (f_X2_passN mi g N).2)
set_option maxRecDepth 100000 in
set_option maxHeartbeats 4000000 in
theorem ct_X2_passMornings {mi : MemI} {ml : MemL} {g : Nat} {N : Nat} (hg : g < 3) (hN : N ≤ 60) : k_Ct k_KS k_R0 Mt_X2_passMornings 5 [vR (2, g, 0), vI (nI N)] mi ml (k_rt (some (vI (f_X2_passMornings mi g N).1)) (f_X2_passMornings mi g N).2 ml) := by
  refine k_ofV (L0 := [vR (2, g, 0), vI (nI N), vU, vU]) (by decide +kernel) (Nat.le_of_ble_eq_true rfl) rfl rfl ?_
  intro p l e s m args below meth c D cy ad bs C
  refine k_iconst (pc := 0) (v := 0) C dX2_passMornings_0 (by decide) ?_
  refine k_istore_2 (pc := 1) C dX2_passMornings_1 rfl ?_
  refine k_iconst (pc := 2) (v := 0) C dX2_passMornings_2 (by decide) ?_
  refine k_istore_3 (pc := 3) C dX2_passMornings_3 rfl ?_
  refine k_cast (L' := [vR (2, g, 0), vI (nI N), vI ((f_X2_passN mi g 0).1), vI (nI 0)]) (mi' := (f_X2_passN mi g 0).2) rfl rfl rfl ?_
  refine k_down (P := fun j => k_V p l e (k_rm 5) s m args below meth c D cy ad bs k_KS k_R0 0 0 (k_End below D cy ad bs k_KS k_R0 (k_rt (some (vI (f_X2_passMornings mi g N).1)) (f_X2_passMornings mi g N).2 ml) args s) ((f_X2_passN mi g j).2) ml 4 [vR (2, g, 0), vI (nI N), vI ((f_X2_passN mi g j).1), vI (nI j)] []) N ?_ (fun j hj hk => ?_)
  · skip
    refine k_iload_n (pc := 4) C dX2_passMornings_4 rfl ?_
    refine k_iload_n (pc := 5) C dX2_passMornings_5 rfl ?_
    refine k_icmp_geT (pc := 6) C 22 dX2_passMornings_6 (by decide) (Int32.le_refl _) ?_
    refine k_iload_n (pc := 22) C dX2_passMornings_22 rfl ?_
    exact k_iret (pc := 23) C rfl  (k_fIm rfl) dX2_passMornings_23
  · skip
    try dsimp only at hk
    refine k_iload_n (pc := 4) C dX2_passMornings_4 rfl ?_
    refine k_iload_n (pc := 5) C dX2_passMornings_5 rfl ?_
    refine k_icmp_geF (pc := 6) C 22 dX2_passMornings_6 (by decide) (k_nge (n := N) rfl (by omega) hj) ?_
    refine k_iload_n (pc := 9) C dX2_passMornings_9 rfl ?_
    refine k_aload_n (pc := 10) C dX2_passMornings_10 rfl ?_
    refine k_call0 (pc := 11) C cv_X2_145 (ct_X2_passMorning hg) (k_in2 hg) rfl (by decide) rfl (Nat.le_of_ble_eq_true rfl) dX2_passMornings_11 ?_
    refine k_iadd (pc := 14) C dX2_passMornings_14 ?_
    refine k_istore_2 (pc := 15) C dX2_passMornings_15 rfl ?_
    refine k_iinc_3 (pc := 16) (v := nI (j + 1)) C dX2_passMornings_16 (k_inc j) rfl ?_
    refine k_goto (pc := 19) C 4 dX2_passMornings_19 (by decide) ?_
    exact k_cast (by rw [f_X2_passN_s]) (by rw [f_X2_passN_s]) rfl hk
def f_X2_draw (mi : MemI) (g : Nat) (n : Int32) : Int32 × MemI :=
  if n ≤ 0 then (0, k_ui mi (2, g, 0) 5 (((mi (2, g, 0) 5) * 1103515245) + 12345))
  else (((((k_ui mi (2, g, 0) 5 (((mi (2, g, 0) 5) * 1103515245) + 12345)) (2, g, 0) 5).toUInt32 >>> ((16 : Int32).toUInt32 &&& Int32.toUInt32 31)).toInt32) - ((((k_ui mi (2, g, 0) 5 (((mi (2, g, 0) 5) * 1103515245) + 12345)) (2, g, 0) 5).toUInt32 >>> ((16 : Int32).toUInt32 &&& Int32.toUInt32 31)).toInt32) / n * n, k_ui mi (2, g, 0) 5 (((mi (2, g, 0) 5) * 1103515245) + 12345))
set_option maxRecDepth 100000 in
set_option maxHeartbeats 4000000 in
theorem ct_X2_draw {mi : MemI} {ml : MemL} {g : Nat} {n : Int32} (hg : g < 3) : k_Ct k_KS k_R0 Mt_X2_draw 0 [vR (2, g, 0), vI n] mi ml (k_rt (some (vI (f_X2_draw mi g n).1)) (f_X2_draw mi g n).2 ml) := by
  refine k_ofV (L0 := [vR (2, g, 0), vI n]) (by decide +kernel) (Nat.le_of_ble_eq_true rfl) rfl rfl ?_
  intro p l e s m args below meth c D cy ad bs C
  refine k_aload_n (pc := 0) C dX2_draw_0 rfl ?_
  refine k_aload_n (pc := 1) C dX2_draw_1 rfl ?_
  refine k_getI (pc := 2) C fl_X2_23 (k_in2 hg) rfl rfl dX2_draw_2 ?_
  refine k_ldc (pc := 5) C lc_X2_148 dX2_draw_5 ?_
  refine k_imul (pc := 7) C dX2_draw_7 ?_
  refine k_sipush (pc := 8) (v := 12345) C dX2_draw_8 (by decide) ?_
  refine k_iadd (pc := 11) C dX2_draw_11 ?_
  refine k_putI (pc := 12) C pl_X2_23 (k_in2 hg) rfl rfl dX2_draw_12 ?_
  refine k_iload_n (pc := 15) C dX2_draw_15 rfl ?_
  refine k_if_le (pc := 16) C 31 dX2_draw_16 (by decide) (fun c16 => ?_) (fun c16 => ?_)
  · skip
    refine k_iconst (pc := 31) (v := 0) C dX2_draw_31 (by decide) ?_
    exact k_iret (pc := 32) C rfl (k_fIm (by unfold f_X2_draw; rw [if_pos c16]; try rfl)) dX2_draw_32
  · skip
    refine k_aload_n (pc := 19) C dX2_draw_19 rfl ?_
    refine k_getI (pc := 20) C fl_X2_23 (k_in2 hg) rfl rfl dX2_draw_20 ?_
    refine k_bipush (pc := 23) (v := 16) C dX2_draw_23 (by decide) ?_
    refine k_iushr (pc := 25) C dX2_draw_25 ?_
    refine k_iload_n (pc := 26) C dX2_draw_26 rfl ?_
    refine k_irem (pc := 27) C dX2_draw_27 (by first | assumption | exact k_ne0 (by assumption)) ?_
    refine k_goto (pc := 28) C 32 dX2_draw_28 (by decide) ?_
    exact k_iret (pc := 32) C rfl (k_fIm (by unfold f_X2_draw; rw [if_neg c16]; try rfl)) dX2_draw_32
def f_X2_drawH (mi : MemI) (g : Nat) : Nat → MemI
  | 0 => mi
  | j + 1 =>
    if ((f_X2_drawH mi g j) (1, g, j) 1) = 0 then f_X2_drawH mi g j
    else if ((((f_X2_draw (f_X2_drawH mi g j) g 10).2) (1, g, j) 7) / 10) ≤ ((f_X2_draw (f_X2_drawH mi g j) g 10).1) then k_ui ((f_X2_draw (f_X2_drawH mi g j) g 10).2) (1, g, j) 2 0
      else k_ui ((f_X2_draw (f_X2_drawH mi g j) g 10).2) (1, g, j) 2 1
theorem f_X2_drawH_s (mi : MemI) (g : Nat) (j : Nat) : f_X2_drawH mi g (j + 1) =
    if ((f_X2_drawH mi g j) (1, g, j) 1) = 0 then f_X2_drawH mi g j
    else if ((((f_X2_draw (f_X2_drawH mi g j) g 10).2) (1, g, j) 7) / 10) ≤ ((f_X2_draw (f_X2_drawH mi g j) g 10).1) then k_ui ((f_X2_draw (f_X2_drawH mi g j) g 10).2) (1, g, j) 2 0
      else k_ui ((f_X2_draw (f_X2_drawH mi g j) g 10).2) (1, g, j) 2 1 := rfl
def f_X2_drawWhoHides (mi : MemI) (g : Nat) : MemI :=
  f_X2_drawH mi g 6
set_option maxRecDepth 100000 in
set_option maxHeartbeats 4000000 in
theorem ct_X2_drawWhoHides {mi : MemI} {ml : MemL} {g : Nat} (hg : g < 3) : k_Ct k_KS k_R0 Mt_X2_drawWhoHides 1 [vR (2, g, 0)] mi ml (k_rt none (f_X2_drawWhoHides mi g) ml) := by
  refine k_ofV (L0 := [vR (2, g, 0), vU, vU, vU, vU]) (by decide +kernel) (Nat.le_of_ble_eq_true rfl) rfl rfl ?_
  intro p l e s m args below meth c D cy ad bs C
  refine k_aload_n (pc := 0) C dX2_drawWhoHides_0 rfl ?_
  refine k_getR (pc := 1) (r := some (11, g, 0)) C fl_X2_11 (k_in2 hg) rfl rfl rfl dX2_drawWhoHides_1 ?_
  refine k_astore_1 (pc := 4) C dX2_drawWhoHides_4 rfl ?_
  refine k_aload_n (pc := 5) C dX2_drawWhoHides_5 rfl ?_
  refine k_alen (pc := 6) (v := 6) C (k_in11 hg) ⟨Nat.le_of_ble_eq_true rfl, Nat.le_of_ble_eq_true rfl⟩ rfl dX2_drawWhoHides_6 ?_
  refine k_istore_2 (pc := 7) C dX2_drawWhoHides_7 rfl ?_
  refine k_iconst (pc := 8) (v := 0) C dX2_drawWhoHides_8 (by decide) ?_
  refine k_istore_3 (pc := 9) C dX2_drawWhoHides_9 rfl ?_
  refine k_cast (L' := [vR (2, g, 0), vR (11, g, 0), vI 6, vI (nI 0), vU]) (mi' := f_X2_drawH mi g 0) rfl rfl rfl ?_
  refine k_down (P := fun j => k_V p l e (k_rm 1) s m args below meth c D cy ad bs k_KS k_R0 0 0 (k_End below D cy ad bs k_KS k_R0 (k_rt none (f_X2_drawWhoHides mi g) ml) args s) (f_X2_drawH mi g j) ml 10 [vR (2, g, 0), vR (11, g, 0), vI 6, vI (nI j), vU] []) 6 ?_ (fun j hj hk => ?_)
  · skip
    refine k_iload_n (pc := 10) C dX2_drawWhoHides_10 rfl ?_
    refine k_iload_n (pc := 11) C dX2_drawWhoHides_11 rfl ?_
    refine k_icmp_geT (pc := 12) C 61 dX2_drawWhoHides_12 (by decide) (by decide) ?_
    exact k_vret (pc := 61) C rfl (k_fm rfl) dX2_drawWhoHides_61
  · skip
    try dsimp only at hk
    refine k_iload_n (pc := 10) C dX2_drawWhoHides_10 rfl ?_
    refine k_iload_n (pc := 11) C dX2_drawWhoHides_11 rfl ?_
    refine k_icmp_geF (pc := 12) C 61 dX2_drawWhoHides_12 (by decide) (k_nge (n := 6) rfl (by decide) hj) ?_
    refine k_aload_n (pc := 15) C dX2_drawWhoHides_15 rfl ?_
    refine k_iload_n (pc := 16) C dX2_drawWhoHides_16 rfl ?_
    refine k_aaldX (pc := 17) (j := j) (kr := (1, g, j)) C (nI_clamp (by omega)) (k_in11 hg) (Or.inr (Or.inl rfl)) (vp_in_nI (show _ < (6 : Nat) by omega) (show (6 : Nat) < 2 ^ 31 by decide)) rfl dX2_drawWhoHides_17 ?_
    refine k_astore_4 (pc := 18) C dX2_drawWhoHides_18 rfl ?_
    refine k_aload (pc := 20) C dX2_drawWhoHides_20 rfl ?_
    refine k_getI (pc := 22) C fl_X2_68 (k_in1 hg hj) rfl rfl dX2_drawWhoHides_22 ?_
    refine k_if_eq (pc := 25) C 55 dX2_drawWhoHides_25 (by decide) (fun c25 => ?_) (fun c25 => ?_)
    · skip
      refine k_iinc_3 (pc := 55) (v := nI (j + 1)) C dX2_drawWhoHides_55 (k_inc j) rfl ?_
      refine k_goto (pc := 58) C 10 dX2_drawWhoHides_58 (by decide) ?_
      refine k_drop_4 ?_
      exact k_cast rfl (by rw [f_X2_drawH_s, if_pos c25]) rfl hk
    · skip
      refine k_aload (pc := 28) C dX2_drawWhoHides_28 rfl ?_
      refine k_aload_n (pc := 30) C dX2_drawWhoHides_30 rfl ?_
      refine k_bipush (pc := 31) (v := 10) C dX2_drawWhoHides_31 (by decide) ?_
      refine k_call1 (pc := 33) C cv_X2_149 (ct_X2_draw hg) (k_in2 hg) rfl (by decide) rfl (Nat.le_of_ble_eq_true rfl) dX2_drawWhoHides_33 ?_
      refine k_aload (pc := 36) C dX2_drawWhoHides_36 rfl ?_
      refine k_getI (pc := 38) C fl_X2_72 (k_in1 hg hj) rfl rfl dX2_drawWhoHides_38 ?_
      refine k_bipush (pc := 41) (v := 10) C dX2_drawWhoHides_41 (by decide) ?_
      refine k_idiv (pc := 43) C dX2_drawWhoHides_43 (by decide) ?_
      refine k_icmp_ge (pc := 44) C 51 dX2_drawWhoHides_44 (by decide) (fun c44 => ?_) (fun c44 => ?_)
      · skip
        refine k_iconst (pc := 51) (v := 0) C dX2_drawWhoHides_51 (by decide) ?_
        refine k_putZ (pc := 52) C (Or.inl rfl) pl_X2_153 (k_in1 hg hj) rfl rfl dX2_drawWhoHides_52 ?_
        refine k_iinc_3 (pc := 55) (v := nI (j + 1)) C dX2_drawWhoHides_55 (k_inc j) rfl ?_
        refine k_goto (pc := 58) C 10 dX2_drawWhoHides_58 (by decide) ?_
        refine k_drop_4 ?_
        exact k_cast rfl (by rw [f_X2_drawH_s, if_neg c25, if_pos c44]) rfl hk
      · skip
        refine k_iconst (pc := 47) (v := 1) C dX2_drawWhoHides_47 (by decide) ?_
        refine k_goto (pc := 48) C 52 dX2_drawWhoHides_48 (by decide) ?_
        refine k_putZ (pc := 52) C (Or.inr rfl) pl_X2_153 (k_in1 hg hj) rfl rfl dX2_drawWhoHides_52 ?_
        refine k_iinc_3 (pc := 55) (v := nI (j + 1)) C dX2_drawWhoHides_55 (k_inc j) rfl ?_
        refine k_goto (pc := 58) C 10 dX2_drawWhoHides_58 (by decide) ?_
        refine k_drop_4 ?_
        exact k_cast rfl (by rw [f_X2_drawH_s, if_neg c25, if_neg c44]) rfl hk
def f_X2_isPickedWithHeart (mi : MemI) (g : Nat) (cz : Int32) (h : Int32) : Int32 × MemI :=
  if f_X2_citizenAt mi g cz < 6 then if ((f_X2_goBy (k_ui mi (1, g, (f_X2_citizenAt mi g cz)) 6 h) g) (1, g, (f_X2_citizenAt mi g cz)) 10) = 0 then (0, f_X2_goBy (k_ui mi (1, g, (f_X2_citizenAt mi g cz)) 6 h) g)
    else (1, f_X2_goBy (k_ui mi (1, g, (f_X2_citizenAt mi g cz)) 6 h) g)
  else (0, mi)
theorem z_X2_isPickedWithHeart {mi : MemI} {g : Nat} {cz : Int32} {h : Int32}  : (f_X2_isPickedWithHeart mi g cz h).1 = 0 ∨ (f_X2_isPickedWithHeart mi g cz h).1 = 1 := by
  unfold f_X2_isPickedWithHeart
  by_cases zh1 : f_X2_citizenAt mi g cz < 6
  · rw [if_pos zh1]
    by_cases zh2 : ((f_X2_goBy (k_ui mi (1, g, (f_X2_citizenAt mi g cz)) 6 h) g) (1, g, (f_X2_citizenAt mi g cz)) 10) = 0
    · rw [if_pos zh2]
      exact (Or.inl rfl)
    · rw [if_neg zh2]
      exact (Or.inr rfl)
  · rw [if_neg zh1]
    exact (Or.inl rfl)
set_option maxRecDepth 100000 in
set_option maxHeartbeats 4000000 in
theorem ct_X2_isPickedWithHeart {mi : MemI} {ml : MemL} {g : Nat} {cz : Int32} {h : Int32} (hg : g < 3) : k_Ct k_KS k_R0 Mt_X2_isPickedWithHeart 4 [vR (2, g, 0), vI cz, vI h] mi ml (k_rt (some (vI (f_X2_isPickedWithHeart mi g cz h).1)) (f_X2_isPickedWithHeart mi g cz h).2 ml) := by
  refine k_ofV (L0 := [vR (2, g, 0), vI cz, vI h, vU]) (by decide +kernel) (Nat.le_of_ble_eq_true rfl) rfl rfl ?_
  intro p l e s m args below meth c D cy ad bs C
  refine k_aload_n (pc := 0) C dX2_isPickedWithHeart_0 rfl ?_
  refine k_iload_n (pc := 1) C dX2_isPickedWithHeart_1 rfl ?_
  by_cases c2 : f_X2_citizenAt mi g cz < 6
  · skip
    refine k_call1 (pc := 2) C cv_X2_123 (ct_X2_citizenAt_s hg c2) (k_in2 hg) rfl (by decide) rfl (Nat.le_of_ble_eq_true rfl) dX2_isPickedWithHeart_2 ?_
    refine k_astore_3 (pc := 5) C dX2_isPickedWithHeart_5 rfl ?_
    refine k_aload_n (pc := 6) C dX2_isPickedWithHeart_6 rfl ?_
    refine k_ifnonnullR (pc := 7) C 12 dX2_isPickedWithHeart_7 (by decide) ?_
    refine k_aload_n (pc := 12) C dX2_isPickedWithHeart_12 rfl ?_
    refine k_iload_n (pc := 13) C dX2_isPickedWithHeart_13 rfl ?_
    refine k_putI (pc := 14) C pl_X2_156 (k_in1 hg c2) rfl rfl dX2_isPickedWithHeart_14 ?_
    refine k_aload_n (pc := 17) C dX2_isPickedWithHeart_17 rfl ?_
    refine k_callv0 (pc := 18) C cv_X2_135 (ct_X2_goBy hg) (k_in2 hg) rfl (by decide) rfl (Nat.le_of_ble_eq_true rfl) dX2_isPickedWithHeart_18 ?_
    refine k_aload_n (pc := 21) C dX2_isPickedWithHeart_21 rfl ?_
    refine k_getI (pc := 22) C fl_X2_159 (k_in1 hg c2) rfl rfl dX2_isPickedWithHeart_22 ?_
    refine k_if_eq (pc := 25) C 32 dX2_isPickedWithHeart_25 (by decide) (fun c25 => ?_) (fun c25 => ?_)
    · skip
      refine k_iconst (pc := 32) (v := 0) C dX2_isPickedWithHeart_32 (by decide) ?_
      exact k_zret (pc := 33) C rfl (Or.inl rfl) (k_fIm (by unfold f_X2_isPickedWithHeart; rw [if_pos c2, if_pos c25]; try rfl)) dX2_isPickedWithHeart_33
    · skip
      refine k_iconst (pc := 28) (v := 1) C dX2_isPickedWithHeart_28 (by decide) ?_
      refine k_goto (pc := 29) C 33 dX2_isPickedWithHeart_29 (by decide) ?_
      exact k_zret (pc := 33) C rfl (Or.inr rfl) (k_fIm (by unfold f_X2_isPickedWithHeart; rw [if_pos c2, if_neg c25]; try rfl)) dX2_isPickedWithHeart_33
  · skip
    refine k_call1 (pc := 2) C cv_X2_123 (ct_X2_citizenAt_n hg c2) (k_in2 hg) rfl (by decide) rfl (Nat.le_of_ble_eq_true rfl) dX2_isPickedWithHeart_2 ?_
    refine k_astore_3 (pc := 5) C dX2_isPickedWithHeart_5 rfl ?_
    refine k_aload_n (pc := 6) C dX2_isPickedWithHeart_6 rfl ?_
    refine k_ifnonnullN (pc := 7) C dX2_isPickedWithHeart_7 ?_
    refine k_iconst (pc := 10) (v := 0) C dX2_isPickedWithHeart_10 (by decide) ?_
    exact k_zret (pc := 11) C rfl (Or.inl rfl) (k_fIm (by unfold f_X2_isPickedWithHeart; rw [if_neg c2]; try rfl)) dX2_isPickedWithHeart_11
def f_X2_pickByRule (mi : MemI) (g : Nat) (bg : Int32) (r : Int32) : Int32 × MemI :=
  if f_X2_beggarAt mi g bg < 6 then ((f_X2_goBy (k_ui mi (0, g, (f_X2_beggarAt mi g bg)) 4 r) g) (0, g, (f_X2_beggarAt mi g bg)) 7, f_X2_goBy (k_ui mi (0, g, (f_X2_beggarAt mi g bg)) 4 r) g)
  else ((-1), mi)
set_option maxRecDepth 100000 in
set_option maxHeartbeats 4000000 in
theorem ct_X2_pickByRule {mi : MemI} {ml : MemL} {g : Nat} {bg : Int32} {r : Int32} (hg : g < 3) : k_Ct k_KS k_R0 Mt_X2_pickByRule 4 [vR (2, g, 0), vI bg, vI r] mi ml (k_rt (some (vI (f_X2_pickByRule mi g bg r).1)) (f_X2_pickByRule mi g bg r).2 ml) := by
  refine k_ofV (L0 := [vR (2, g, 0), vI bg, vI r, vU]) (by decide +kernel) (Nat.le_of_ble_eq_true rfl) rfl rfl ?_
  intro p l e s m args below meth c D cy ad bs C
  refine k_aload_n (pc := 0) C dX2_pickByRule_0 rfl ?_
  refine k_iload_n (pc := 1) C dX2_pickByRule_1 rfl ?_
  by_cases c2 : f_X2_beggarAt mi g bg < 6
  · skip
    refine k_call1 (pc := 2) C cv_X2_162 (ct_X2_beggarAt_s hg c2) (k_in2 hg) rfl (by decide) rfl (Nat.le_of_ble_eq_true rfl) dX2_pickByRule_2 ?_
    refine k_astore_3 (pc := 5) C dX2_pickByRule_5 rfl ?_
    refine k_aload_n (pc := 6) C dX2_pickByRule_6 rfl ?_
    refine k_ifnonnullR (pc := 7) C 12 dX2_pickByRule_7 (by decide) ?_
    refine k_aload_n (pc := 12) C dX2_pickByRule_12 rfl ?_
    refine k_iload_n (pc := 13) C dX2_pickByRule_13 rfl ?_
    refine k_putI (pc := 14) C pl_X2_95 (k_in0 hg c2) rfl rfl dX2_pickByRule_14 ?_
    refine k_aload_n (pc := 17) C dX2_pickByRule_17 rfl ?_
    refine k_callv0 (pc := 18) C cv_X2_135 (ct_X2_goBy hg) (k_in2 hg) rfl (by decide) rfl (Nat.le_of_ble_eq_true rfl) dX2_pickByRule_18 ?_
    refine k_aload_n (pc := 21) C dX2_pickByRule_21 rfl ?_
    refine k_getI (pc := 22) C fl_X2_82 (k_in0 hg c2) rfl rfl dX2_pickByRule_22 ?_
    exact k_iret (pc := 25) C rfl (k_fIm (by unfold f_X2_pickByRule; rw [if_pos c2]; try rfl)) dX2_pickByRule_25
  · skip
    refine k_call1 (pc := 2) C cv_X2_162 (ct_X2_beggarAt_n hg c2) (k_in2 hg) rfl (by decide) rfl (Nat.le_of_ble_eq_true rfl) dX2_pickByRule_2 ?_
    refine k_astore_3 (pc := 5) C dX2_pickByRule_5 rfl ?_
    refine k_aload_n (pc := 6) C dX2_pickByRule_6 rfl ?_
    refine k_ifnonnullN (pc := 7) C dX2_pickByRule_7 ?_
    refine k_iconst (pc := 10) (v := (-1)) C dX2_pickByRule_10 (by decide) ?_
    exact k_iret (pc := 11) C rfl (k_fIm (by unfold f_X2_pickByRule; rw [if_neg c2]; try rfl)) dX2_pickByRule_11
def f_X2_mostB (mi : MemI) (g : Nat) : Nat → Int32 × Int32
  | 0 => (0, (-1))
  | j + 1 =>
    if (f_X1_isOpen mi g j) = 0 then (((f_X2_mostB mi g j).1), ((f_X2_mostB mi g j).2))
    else if (mi (1, g, j) 13) ≤ ((f_X2_mostB mi g j).1) then (((f_X2_mostB mi g j).1), ((f_X2_mostB mi g j).2))
      else (mi (1, g, j) 13, mi (1, g, j) 0)
theorem f_X2_mostB_s (mi : MemI) (g : Nat) (j : Nat) : f_X2_mostB mi g (j + 1) =
    if (f_X1_isOpen mi g j) = 0 then (((f_X2_mostB mi g j).1), ((f_X2_mostB mi g j).2))
    else if (mi (1, g, j) 13) ≤ ((f_X2_mostB mi g j).1) then (((f_X2_mostB mi g j).1), ((f_X2_mostB mi g j).2))
      else (mi (1, g, j) 13, mi (1, g, j) 0) := rfl
def f_X2_mostBurdened (mi : MemI) (g : Nat) : Int32 :=
  ((f_X2_mostB mi g 6).2)
set_option maxRecDepth 100000 in
set_option maxHeartbeats 4000000 in
theorem ct_X2_mostBurdened {mi : MemI} {ml : MemL} {g : Nat} (hg : g < 3) : k_Ct k_KS k_R0 Mt_X2_mostBurdened 1 [vR (2, g, 0)] mi ml (k_rt (some (vI (f_X2_mostBurdened mi g))) mi ml) := by
  refine k_ofV (L0 := [vR (2, g, 0), vU, vU, vU, vU, vU, vU]) (by decide +kernel) (Nat.le_of_ble_eq_true rfl) rfl rfl ?_
  intro p l e s m args below meth c D cy ad bs C
  refine k_iconst (pc := 0) (v := 0) C dX2_mostBurdened_0 (by decide) ?_
  refine k_istore_1 (pc := 1) C dX2_mostBurdened_1 rfl ?_
  refine k_iconst (pc := 2) (v := (-1)) C dX2_mostBurdened_2 (by decide) ?_
  refine k_istore_2 (pc := 3) C dX2_mostBurdened_3 rfl ?_
  refine k_aload_n (pc := 4) C dX2_mostBurdened_4 rfl ?_
  refine k_getR (pc := 5) (r := some (11, g, 0)) C fl_X2_11 (k_in2 hg) rfl rfl rfl dX2_mostBurdened_5 ?_
  refine k_astore_3 (pc := 8) C dX2_mostBurdened_8 rfl ?_
  refine k_aload_n (pc := 9) C dX2_mostBurdened_9 rfl ?_
  refine k_alen (pc := 10) (v := 6) C (k_in11 hg) ⟨Nat.le_of_ble_eq_true rfl, Nat.le_of_ble_eq_true rfl⟩ rfl dX2_mostBurdened_10 ?_
  refine k_istore_4 (pc := 11) C dX2_mostBurdened_11 rfl ?_
  refine k_iconst (pc := 13) (v := 0) C dX2_mostBurdened_13 (by decide) ?_
  refine k_istore_5 (pc := 14) C dX2_mostBurdened_14 rfl ?_
  refine k_cast (L' := [vR (2, g, 0), vI ((f_X2_mostB mi g 0).1), vI ((f_X2_mostB mi g 0).2), vR (11, g, 0), vI 6, vI (nI 0), vU]) (mi' := mi) rfl rfl rfl ?_
  refine k_down (P := fun j => k_V p l e (k_rm 1) s m args below meth c D cy ad bs k_KS k_R0 0 0 (k_End below D cy ad bs k_KS k_R0 (k_rt (some (vI (f_X2_mostBurdened mi g))) mi ml) args s) mi ml 16 [vR (2, g, 0), vI ((f_X2_mostB mi g j).1), vI ((f_X2_mostB mi g j).2), vR (11, g, 0), vI 6, vI (nI j), vU] []) 6 ?_ (fun j hj hk => ?_)
  · skip
    refine k_iload (pc := 16) C dX2_mostBurdened_16 rfl ?_
    refine k_iload (pc := 18) C dX2_mostBurdened_18 rfl ?_
    refine k_icmp_geT (pc := 20) C 64 dX2_mostBurdened_20 (by decide) (by decide) ?_
    refine k_iload_n (pc := 64) C dX2_mostBurdened_64 rfl ?_
    exact k_iret (pc := 65) C rfl  (k_fI rfl) dX2_mostBurdened_65
  · skip
    try dsimp only at hk
    refine k_iload (pc := 16) C dX2_mostBurdened_16 rfl ?_
    refine k_iload (pc := 18) C dX2_mostBurdened_18 rfl ?_
    refine k_icmp_geF (pc := 20) C 64 dX2_mostBurdened_20 (by decide) (k_nge (n := 6) rfl (by decide) hj) ?_
    refine k_aload_n (pc := 23) C dX2_mostBurdened_23 rfl ?_
    refine k_iload (pc := 24) C dX2_mostBurdened_24 rfl ?_
    refine k_aaldX (pc := 26) (j := j) (kr := (1, g, j)) C (nI_clamp (by omega)) (k_in11 hg) (Or.inr (Or.inl rfl)) (vp_in_nI (show _ < (6 : Nat) by omega) (show (6 : Nat) < 2 ^ 31 by decide)) rfl dX2_mostBurdened_26 ?_
    refine k_astore_6 (pc := 27) C dX2_mostBurdened_27 rfl ?_
    refine k_aload (pc := 29) C dX2_mostBurdened_29 rfl ?_
    refine k_call0 (pc := 31) C cv_X2_54 (ct_X1_isOpen hg hj) (k_in1 hg hj) rfl (by decide) rfl (Nat.le_of_ble_eq_true rfl) dX2_mostBurdened_31 ?_
    refine k_if_eq (pc := 34) C 58 dX2_mostBurdened_34 (by decide) (fun c34 => ?_) (fun c34 => ?_)
    · skip
      refine k_iinc_5 (pc := 58) (v := nI (j + 1)) C dX2_mostBurdened_58 (k_inc j) rfl ?_
      refine k_goto (pc := 61) C 16 dX2_mostBurdened_61 (by decide) ?_
      refine k_drop_6 ?_
      exact k_cast (by rw [f_X2_mostB_s, if_pos c34]) rfl rfl hk
    · skip
      refine k_aload (pc := 37) C dX2_mostBurdened_37 rfl ?_
      refine k_getI (pc := 39) C fl_X2_166 (k_in1 hg hj) rfl rfl dX2_mostBurdened_39 ?_
      refine k_iload_n (pc := 42) C dX2_mostBurdened_42 rfl ?_
      refine k_icmp_le (pc := 43) C 58 dX2_mostBurdened_43 (by decide) (fun c43 => ?_) (fun c43 => ?_)
      · skip
        refine k_iinc_5 (pc := 58) (v := nI (j + 1)) C dX2_mostBurdened_58 (k_inc j) rfl ?_
        refine k_goto (pc := 61) C 16 dX2_mostBurdened_61 (by decide) ?_
        refine k_drop_6 ?_
        exact k_cast (by rw [f_X2_mostB_s, if_neg c34, if_pos c43]) rfl rfl hk
      · skip
        refine k_aload (pc := 46) C dX2_mostBurdened_46 rfl ?_
        refine k_getI (pc := 48) C fl_X2_166 (k_in1 hg hj) rfl rfl dX2_mostBurdened_48 ?_
        refine k_istore_1 (pc := 51) C dX2_mostBurdened_51 rfl ?_
        refine k_aload (pc := 52) C dX2_mostBurdened_52 rfl ?_
        refine k_getI (pc := 54) C fl_X2_169 (k_in1 hg hj) rfl rfl dX2_mostBurdened_54 ?_
        refine k_istore_2 (pc := 57) C dX2_mostBurdened_57 rfl ?_
        refine k_iinc_5 (pc := 58) (v := nI (j + 1)) C dX2_mostBurdened_58 (k_inc j) rfl ?_
        refine k_goto (pc := 61) C 16 dX2_mostBurdened_61 (by decide) ?_
        refine k_drop_6 ?_
        exact k_cast (by rw [f_X2_mostB_s, if_neg c34, if_neg c43]) rfl rfl hk
def f_X2_fhR (g : Nat) : Nat → Nat → MemI → Int32 × MemI
  | 0, _, m0 => ((-1), m0)
  | n + 1, j, m0 => if (f_X2_passMorning m0 g).1 ≤ 0 then f_X2_fhR g n (j + 1) (f_X2_passMorning m0 g).2 else (nI (j + 1), (f_X2_passMorning m0 g).2)
theorem f_X2_fhR_s (g n j : Nat) (m0 : MemI) : f_X2_fhR g (n + 1) j m0 = if (f_X2_passMorning m0 g).1 ≤ 0 then f_X2_fhR g n (j + 1) (f_X2_passMorning m0 g).2 else (nI (j + 1), (f_X2_passMorning m0 g).2) := rfl
def f_X2_firstHungryMorning (mi : MemI) (g N : Nat) : Int32 × MemI := f_X2_fhR g N 0 mi
set_option maxRecDepth 100000 in
set_option maxHeartbeats 4000000 in
theorem ct_X2_firstHungryMorning {mi : MemI} {ml : MemL} {g N : Nat} (hg : g < 3) (hN : N ≤ 60) : k_Ct k_KS k_R0 Mt_X2_firstHungryMorning 5 [vR (2, g, 0), vI (nI N)] mi ml (k_rt (some (vI (f_X2_firstHungryMorning mi g N).1)) (f_X2_firstHungryMorning mi g N).2 ml) := by
  refine k_ofV (L0 := [vR (2, g, 0), vI (nI N), vU]) (by decide +kernel) (Nat.le_of_ble_eq_true rfl) rfl rfl ?_
  intro p l e s m args below meth c D cy ad bs C
  refine k_iconst (pc := 0) (v := 1) C dX2_firstHungryMorning_0 (by decide) ?_
  refine k_istore_2 (pc := 1) C dX2_firstHungryMorning_1 rfl ?_
  have hloop : ∀ (n j : Nat) (m0 : MemI), j + n = N → f_X2_fhR g n j m0 = f_X2_firstHungryMorning mi g N → k_V p l e (k_rm 5) s m args below meth c D cy ad bs k_KS k_R0 0 0 (k_End below D cy ad bs k_KS k_R0 (k_rt (some (vI (f_X2_firstHungryMorning mi g N).1)) (f_X2_firstHungryMorning mi g N).2 ml) args s) m0 ml 2 [vR (2, g, 0), vI (nI N), vI (nI (j + 1))] [] := by
    intro n
    induction n with
    | zero =>
      intro j m0 hjn hres
      refine k_iload_n (pc := 2) C dX2_firstHungryMorning_2 rfl ?_
      refine k_iload_n (pc := 3) C dX2_firstHungryMorning_3 rfl ?_
      refine k_icmp_gtT (pc := 4) C 22 dX2_firstHungryMorning_4 (by decide) (nI_lt (show N < j + 1 by omega) (by omega)) ?_
      refine k_iconst (pc := 22) (v := (-1)) C dX2_firstHungryMorning_22 (by decide) ?_
      exact k_iret (pc := 23) C rfl (k_fIm (by rw [← hres]; rfl)) dX2_firstHungryMorning_23
    | succ n ih =>
      intro j m0 hjn hres
      refine k_iload_n (pc := 2) C dX2_firstHungryMorning_2 rfl ?_
      refine k_iload_n (pc := 3) C dX2_firstHungryMorning_3 rfl ?_
      refine k_icmp_gtF (pc := 4) C 22 dX2_firstHungryMorning_4 (by decide) (nI_nlt (show j + 1 ≤ N by omega) (by omega)) ?_
      refine k_aload_n (pc := 7) C dX2_firstHungryMorning_7 rfl ?_
      refine k_call0 (pc := 8) C cv_X2_145 (ct_X2_passMorning hg) (k_in2 hg) rfl (by decide) rfl (Nat.le_of_ble_eq_true rfl) dX2_firstHungryMorning_8 ?_
      refine k_if_le (pc := 11) C 16 dX2_firstHungryMorning_11 (by decide) (fun c11 => ?_) (fun c11 => ?_)
      · skip
        refine k_iinc_2 (pc := 16) (v := nI (j + 1 + 1)) C dX2_firstHungryMorning_16 (k_inc (j + 1)) rfl ?_
        refine k_goto (pc := 19) C 2 dX2_firstHungryMorning_19 (by decide) ?_
        exact ih (j + 1) ((f_X2_passMorning m0 g).2) (by omega) (by rw [← hres, f_X2_fhR_s, if_pos c11])
      · skip
        refine k_iload_n (pc := 14) C dX2_firstHungryMorning_14 rfl ?_
        exact k_iret (pc := 15) C rfl (k_fIm (by rw [← hres, f_X2_fhR_s, if_neg c11])) dX2_firstHungryMorning_15
  exact hloop N 0 mi (by omega) rfl
def f_X2_fwR (mi : MemI) (ml : MemL) (g i2 : Nat) (n : Int32) : Nat → Nat → Int32 → Int32
  | 0, _, pl => if n ≤ pl then (-1) else pl
  | u + 1, j, pl => if f_X0_comes mi g j = 0 then f_X2_fwR mi ml g i2 n u (j + 1) pl else if n ≤ pl then pl else if f_X5_getInt mi ml i2 pl = mi (0, g, j) 7 then f_X2_fwR mi ml g i2 n u (j + 1) (pl + 1) else pl
theorem f_X2_fwR_s (mi : MemI) (ml : MemL) (g i2 : Nat) (n : Int32) (u j : Nat) (pl : Int32) : f_X2_fwR mi ml g i2 n (u + 1) j pl = if f_X0_comes mi g j = 0 then f_X2_fwR mi ml g i2 n u (j + 1) pl else if n ≤ pl then pl else if f_X5_getInt mi ml i2 pl = mi (0, g, j) 7 then f_X2_fwR mi ml g i2 n u (j + 1) (pl + 1) else pl := rfl
def f_X2_firstWrong (mi : MemI) (ml : MemL) (g i2 : Nat) (n : Int32) : Int32 := f_X2_fwR mi ml g i2 n 6 0 0
set_option maxRecDepth 100000 in
set_option maxHeartbeats 4000000 in
theorem ct_X2_firstWrong {mi : MemI} {ml : MemL} {g i2 : Nat} {n : Int32} (hg : g < 3) (hi2 : i2 < 8) : k_Ct k_KS k_R0 Mt_X2_firstWrong 3 [vR (2, g, 0), vR (5, 0, i2), vI n] mi ml (k_rt (some (vI (f_X2_firstWrong mi ml g i2 n))) mi ml) := by
  refine k_ofV (L0 := [vR (2, g, 0), vR (5, 0, i2), vI n, vU, vU, vU, vU, vU]) (by decide +kernel) (Nat.le_of_ble_eq_true rfl) rfl rfl ?_
  intro p l e s m args below meth c D cy ad bs C
  refine k_iconst (pc := 0) (v := 0) C dX2_firstWrong_0 (by decide) ?_
  refine k_istore_3 (pc := 1) C dX2_firstWrong_1 rfl ?_
  refine k_aload_n (pc := 2) C dX2_firstWrong_2 rfl ?_
  refine k_getR (pc := 3) (r := some (10, g, 0)) C fl_X2_19 (k_in2 hg) rfl rfl rfl dX2_firstWrong_3 ?_
  refine k_astore_4 (pc := 6) C dX2_firstWrong_6 rfl ?_
  refine k_aload (pc := 8) C dX2_firstWrong_8 rfl ?_
  refine k_alen (pc := 10) (v := 6) C (k_in10 hg) ⟨Nat.le_of_ble_eq_true rfl, Nat.le_of_ble_eq_true rfl⟩ rfl dX2_firstWrong_10 ?_
  refine k_istore_5 (pc := 11) C dX2_firstWrong_11 rfl ?_
  refine k_iconst (pc := 13) (v := 0) C dX2_firstWrong_13 (by decide) ?_
  refine k_istore_6 (pc := 14) C dX2_firstWrong_14 rfl ?_
  have hloop : ∀ (u j : Nat) (pl : Int32), j + u = 6 → f_X2_fwR mi ml g i2 n u j pl = f_X2_firstWrong mi ml g i2 n → k_V p l e (k_rm 3) s m args below meth c D cy ad bs k_KS k_R0 0 0 (k_End below D cy ad bs k_KS k_R0 (k_rt (some (vI (f_X2_firstWrong mi ml g i2 n))) mi ml) args s) mi ml 16 [vR (2, g, 0), vR (5, 0, i2), vI n, vI pl, vR (10, g, 0), vI 6, vI (nI j), vU] [] := by
    intro u
    induction u with
    | zero =>
      intro j pl hjn hres
      obtain rfl : j = 6 := by omega
      refine k_iload (pc := 16) C dX2_firstWrong_16 rfl ?_
      refine k_iload (pc := 18) C dX2_firstWrong_18 rfl ?_
      refine k_icmp_geT (pc := 20) C 70 dX2_firstWrong_20 (by decide) (by decide) ?_
      refine k_iload_n (pc := 70) C dX2_firstWrong_70 rfl ?_
      refine k_iload_n (pc := 71) C dX2_firstWrong_71 rfl ?_
      refine k_icmp_ge (pc := 72) C 79 dX2_firstWrong_72 (by decide) (fun c72 => ?_) (fun c72 => ?_)
      · skip
        refine k_iconst (pc := 79) (v := (-1)) C dX2_firstWrong_79 (by decide) ?_
        exact k_iret (pc := 80) C rfl (k_fI (by rw [← hres, show f_X2_fwR mi ml g i2 n 0 6 pl = _ from rfl, f_X2_fwR, if_pos c72])) dX2_firstWrong_80
      · skip
        refine k_iload_n (pc := 75) C dX2_firstWrong_75 rfl ?_
        refine k_goto (pc := 76) C 80 dX2_firstWrong_76 (by decide) ?_
        exact k_iret (pc := 80) C rfl (k_fI (by rw [← hres, show f_X2_fwR mi ml g i2 n 0 6 pl = _ from rfl, f_X2_fwR, if_neg c72])) dX2_firstWrong_80
    | succ u ih =>
      intro j pl hjn hres
      have hj : j < 6 := by omega
      refine k_iload (pc := 16) C dX2_firstWrong_16 rfl ?_
      refine k_iload (pc := 18) C dX2_firstWrong_18 rfl ?_
      refine k_icmp_geF (pc := 20) C 70 dX2_firstWrong_20 (by decide) (k_nge (n := 6) rfl (by decide) hj) ?_
      refine k_aload (pc := 23) C dX2_firstWrong_23 rfl ?_
      refine k_iload (pc := 25) C dX2_firstWrong_25 rfl ?_
      refine k_aaldX (pc := 27) (j := j) (kr := (0, g, j)) C (nI_clamp (by omega)) (k_in10 hg) (Or.inl rfl) (vp_in_nI (show _ < (6 : Nat) by omega) (show (6 : Nat) < 2 ^ 31 by decide)) rfl dX2_firstWrong_27 ?_
      refine k_astore_7 (pc := 28) C dX2_firstWrong_28 rfl ?_
      refine k_aload (pc := 30) C dX2_firstWrong_30 rfl ?_
      refine k_call0 (pc := 32) C cv_X2_62 (ct_X0_comes hg hj) (k_in0 hg hj) rfl (by decide) rfl (Nat.le_of_ble_eq_true rfl) dX2_firstWrong_32 ?_
      refine k_if_ne (pc := 35) C 41 dX2_firstWrong_35 (by decide) (fun c35 => ?_) (fun c35 => ?_)
      · skip
        refine k_iload_n (pc := 41) C dX2_firstWrong_41 rfl ?_
        refine k_iload_n (pc := 42) C dX2_firstWrong_42 rfl ?_
        refine k_icmp_ge (pc := 43) C 59 dX2_firstWrong_43 (by decide) (fun c43 => ?_) (fun c43 => ?_)
        · skip
          refine k_iload_n (pc := 59) C dX2_firstWrong_59 rfl ?_
          exact k_iret (pc := 60) C rfl (k_fI (by rw [← hres, f_X2_fwR_s, if_neg c35, if_pos c43])) dX2_firstWrong_60
        · skip
          refine k_aload_n (pc := 46) C dX2_firstWrong_46 rfl ?_
          refine k_iload_n (pc := 47) C dX2_firstWrong_47 rfl ?_
          refine k_call1 (pc := 48) C cv_X2_170 (ct_X5_getInt hi2) (k_in5 hi2) rfl (by decide) rfl (Nat.le_of_ble_eq_true rfl) dX2_firstWrong_48 ?_
          refine k_aload (pc := 51) C dX2_firstWrong_51 rfl ?_
          refine k_getI (pc := 53) C fl_X2_82 (k_in0 hg hj) rfl rfl dX2_firstWrong_53 ?_
          refine k_icmp_eq (pc := 56) C 61 dX2_firstWrong_56 (by decide) (fun c56 => ?_) (fun c56 => ?_)
          · skip
            refine k_iinc_3 (pc := 61) (v := pl + 1) C dX2_firstWrong_61 rfl rfl ?_
            refine k_iinc_6 (pc := 64) (v := nI (j + 1)) C dX2_firstWrong_64 (k_inc j) rfl ?_
            refine k_goto (pc := 67) C 16 dX2_firstWrong_67 (by decide) ?_
            refine k_drop_7 ?_
            exact ih (j + 1) (pl + 1) (by omega) (by rw [← hres, f_X2_fwR_s, if_neg c35, if_neg c43, if_pos c56])
          · skip
            refine k_iload_n (pc := 59) C dX2_firstWrong_59 rfl ?_
            exact k_iret (pc := 60) C rfl (k_fI (by rw [← hres, f_X2_fwR_s, if_neg c35, if_neg c43, if_neg c56])) dX2_firstWrong_60
      · skip
        refine k_goto (pc := 38) C 64 dX2_firstWrong_38 (by decide) ?_
        refine k_iinc_6 (pc := 64) (v := nI (j + 1)) C dX2_firstWrong_64 (k_inc j) rfl ?_
        refine k_goto (pc := 67) C 16 dX2_firstWrong_67 (by decide) ?_
        refine k_drop_7 ?_
        exact ih (j + 1) pl (by omega) (by rw [← hres, f_X2_fwR_s, if_pos c35])
  exact hloop 6 0 0 rfl rfl
