/-! City.become -/
/-- the fields of boolean type hold 0 or 1 -/
def k_zo (g : Nat) (mi : MemI) : Prop := ∀ i, i < 6 → ((mi (1, g, i) 1 = 0 ∨ mi (1, g, i) 1 = 1) ∧ (mi (1, g, i) 2 = 0 ∨ mi (1, g, i) 2 = 1)) ∧ ((mi (0, g, i) 1 = 0 ∨ mi (0, g, i) 1 = 1) ∧ (mi (0, g, i) 2 = 0 ∨ mi (0, g, i) 2 = 1))
theorem f_X1_become_ne (mi : MemI) {g i g2 i2 : Nat} {k : Ky} (h : k ≠ (1, g, i)) : f_X1_become mi g i g2 i2 k = mi k := by
  unfold f_X1_become
  simp only [k_ui_ne h]
theorem f_X0_become_ne (mi : MemI) {g i g2 i2 : Nat} {k : Ky} (h : k ≠ (0, g, i)) : f_X0_become mi g i g2 i2 k = mi k := by
  unfold f_X0_become
  simp only [k_ui_ne h]
def f_X2_bec2 (mi : MemI) (g : Nat) (g2 : Nat) : Nat → MemI
  | 0 => mi
  | j + 1 =>
    f_X0_become (f_X2_bec2 mi g g2 j) g j g2 j
theorem f_X2_bec2_s (mi : MemI) (g : Nat) (g2 : Nat) (j : Nat) : f_X2_bec2 mi g g2 (j + 1) =
    f_X0_become (f_X2_bec2 mi g g2 j) g j g2 j := rfl
def f_X2_bec1 (mi : MemI) (g : Nat) (g2 : Nat) : Nat → MemI
  | 0 => mi
  | j + 1 =>
    f_X1_become (f_X2_bec1 mi g g2 j) g j g2 j
theorem f_X2_bec1_s (mi : MemI) (g : Nat) (g2 : Nat) (j : Nat) : f_X2_bec1 mi g g2 (j + 1) =
    f_X1_become (f_X2_bec1 mi g g2 j) g j g2 j := rfl
theorem f_X2_bec1_s2 (mi : MemI) {g g2 : Nat} (hne : g ≠ g2) : ∀ j i, f_X2_bec1 mi g g2 j (1, g2, i) = mi (1, g2, i) := by
  intro j i
  induction j with
  | zero => rfl
  | succ j ih => rw [f_X2_bec1_s, f_X1_become_ne _ (by simp [Ne.symm hne]), ih]
theorem f_X2_bec1_s0 (mi : MemI) (g g2 : Nat) : ∀ j i g3, f_X2_bec1 mi g g2 j (0, g3, i) = mi (0, g3, i) := by
  intro j i g3
  induction j with
  | zero => rfl
  | succ j ih => rw [f_X2_bec1_s, f_X1_become_ne _ (by simp), ih]
theorem f_X2_bec2_s2 (mi : MemI) {g g2 : Nat} (hne : g ≠ g2) : ∀ j i, f_X2_bec2 (f_X2_bec1 mi g g2 6) g g2 j (0, g2, i) = mi (0, g2, i) := by
  intro j i
  induction j with
  | zero => exact f_X2_bec1_s0 mi g g2 6 i g2
  | succ j ih => rw [f_X2_bec2_s, f_X0_become_ne _ (by simp [Ne.symm hne]), ih]
def f_X2_become (mi : MemI) (g : Nat) (g2 : Nat) : MemI :=
  k_ui (k_ui (k_ui (k_ui (f_X2_bec2 (f_X2_bec1 mi g g2 6) g g2 6) (2, g, 0) 2 ((f_X2_bec2 (f_X2_bec1 mi g g2 6) g g2 6) (2, g2, 0) 2)) (2, g, 0) 3 ((k_ui (f_X2_bec2 (f_X2_bec1 mi g g2 6) g g2 6) (2, g, 0) 2 ((f_X2_bec2 (f_X2_bec1 mi g g2 6) g g2 6) (2, g2, 0) 2)) (2, g2, 0) 3)) (2, g, 0) 4 ((k_ui (k_ui (f_X2_bec2 (f_X2_bec1 mi g g2 6) g g2 6) (2, g, 0) 2 ((f_X2_bec2 (f_X2_bec1 mi g g2 6) g g2 6) (2, g2, 0) 2)) (2, g, 0) 3 ((k_ui (f_X2_bec2 (f_X2_bec1 mi g g2 6) g g2 6) (2, g, 0) 2 ((f_X2_bec2 (f_X2_bec1 mi g g2 6) g g2 6) (2, g2, 0) 2)) (2, g2, 0) 3)) (2, g2, 0) 4)) (2, g, 0) 5 ((k_ui (k_ui (k_ui (f_X2_bec2 (f_X2_bec1 mi g g2 6) g g2 6) (2, g, 0) 2 ((f_X2_bec2 (f_X2_bec1 mi g g2 6) g g2 6) (2, g2, 0) 2)) (2, g, 0) 3 ((k_ui (f_X2_bec2 (f_X2_bec1 mi g g2 6) g g2 6) (2, g, 0) 2 ((f_X2_bec2 (f_X2_bec1 mi g g2 6) g g2 6) (2, g2, 0) 2)) (2, g2, 0) 3)) (2, g, 0) 4 ((k_ui (k_ui (f_X2_bec2 (f_X2_bec1 mi g g2 6) g g2 6) (2, g, 0) 2 ((f_X2_bec2 (f_X2_bec1 mi g g2 6) g g2 6) (2, g2, 0) 2)) (2, g, 0) 3 ((k_ui (f_X2_bec2 (f_X2_bec1 mi g g2 6) g g2 6) (2, g, 0) 2 ((f_X2_bec2 (f_X2_bec1 mi g g2 6) g g2 6) (2, g2, 0) 2)) (2, g2, 0) 3)) (2, g2, 0) 4)) (2, g2, 0) 5)
set_option maxRecDepth 100000 in
set_option maxHeartbeats 4000000 in
theorem ct_X2_become {mi : MemI} {ml : MemL} {g : Nat} {g2 : Nat} (hg : g < 3) (hne : g ≠ g2) (hZ : k_zo g2 mi) (hg2 : g2 < 3) : k_Ct k_KS k_R0 Mt_X2_become 1 [vR (2, g, 0), vR (2, g2, 0)] mi ml (k_rt none (f_X2_become mi g g2) ml) := by
  refine k_ofV (L0 := [vR (2, g, 0), vR (2, g2, 0), vU]) (by decide +kernel) (Nat.le_of_ble_eq_true rfl) rfl rfl ?_
  intro p l e s m args below meth c D cy ad bs C
  refine k_iconst (pc := 0) (v := 0) C dX2_become_0 (by decide) ?_
  refine k_istore_2 (pc := 1) C dX2_become_1 rfl ?_
  refine k_cast (L' := [vR (2, g, 0), vR (2, g2, 0), vI (nI 0)]) (mi' := f_X2_bec1 mi g g2 0) rfl rfl rfl ?_
  refine k_down (P := fun j => k_V p l e (k_rm 1) s m args below meth c D cy ad bs k_KS k_R0 0 0 (k_End below D cy ad bs k_KS k_R0 (k_rt none (f_X2_become mi g g2) ml) args s) (f_X2_bec1 mi g g2 j) ml 2 [vR (2, g, 0), vR (2, g2, 0), vI (nI j)] []) 6 ?_ (fun j hj hk => ?_)
  · skip
    refine k_iload_n (pc := 2) C dX2_become_2 rfl ?_
    refine k_aload_n (pc := 3) C dX2_become_3 rfl ?_
    refine k_getR (pc := 4) (r := some (11, g, 0)) C fl_X2_11 (k_in2 hg) rfl rfl rfl dX2_become_4 ?_
    refine k_alen (pc := 7) (v := 6) C (k_in11 hg) ⟨Nat.le_of_ble_eq_true rfl, Nat.le_of_ble_eq_true rfl⟩ rfl dX2_become_7 ?_
    refine k_icmp_geT (pc := 8) C 41 dX2_become_8 (by decide) (by decide) ?_
    refine k_iconst (pc := 41) (v := 0) C dX2_become_41 (by decide) ?_
    refine k_istore_2 (pc := 42) C dX2_become_42 rfl ?_
    refine k_cast (L' := [vR (2, g, 0), vR (2, g2, 0), vI (nI 0)]) (mi' := f_X2_bec2 (f_X2_bec1 mi g g2 6) g g2 0) rfl rfl rfl ?_
    refine k_down (P := fun j => k_V p l e (k_rm 1) s m args below meth c D cy ad bs k_KS k_R0 0 0 (k_End below D cy ad bs k_KS k_R0 (k_rt none (f_X2_become mi g g2) ml) args s) (f_X2_bec2 (f_X2_bec1 mi g g2 6) g g2 j) ml 43 [vR (2, g, 0), vR (2, g2, 0), vI (nI j)] []) 6 ?_ (fun j hj hk => ?_)
    · skip
      refine k_iload_n (pc := 43) C dX2_become_43 rfl ?_
      refine k_aload_n (pc := 44) C dX2_become_44 rfl ?_
      refine k_getR (pc := 45) (r := some (10, g, 0)) C fl_X2_19 (k_in2 hg) rfl rfl rfl dX2_become_45 ?_
      refine k_alen (pc := 48) (v := 6) C (k_in10 hg) ⟨Nat.le_of_ble_eq_true rfl, Nat.le_of_ble_eq_true rfl⟩ rfl dX2_become_48 ?_
      refine k_icmp_geT (pc := 49) C 82 dX2_become_49 (by decide) (by decide) ?_
      refine k_aload_n (pc := 82) C dX2_become_82 rfl ?_
      refine k_aload_n (pc := 83) C dX2_become_83 rfl ?_
      refine k_getI (pc := 84) C fl_X2_38 (k_in2 hg2) rfl rfl dX2_become_84 ?_
      refine k_putI (pc := 87) C pl_X2_38 (k_in2 hg) rfl rfl dX2_become_87 ?_
      refine k_aload_n (pc := 90) C dX2_become_90 rfl ?_
      refine k_aload_n (pc := 91) C dX2_become_91 rfl ?_
      refine k_getI (pc := 92) C fl_X2_41 (k_in2 hg2) rfl rfl dX2_become_92 ?_
      refine k_putI (pc := 95) C pl_X2_41 (k_in2 hg) rfl rfl dX2_become_95 ?_
      refine k_aload_n (pc := 98) C dX2_become_98 rfl ?_
      refine k_aload_n (pc := 99) C dX2_become_99 rfl ?_
      refine k_getI (pc := 100) C fl_X2_44 (k_in2 hg2) rfl rfl dX2_become_100 ?_
      refine k_putI (pc := 103) C pl_X2_44 (k_in2 hg) rfl rfl dX2_become_103 ?_
      refine k_aload_n (pc := 106) C dX2_become_106 rfl ?_
      refine k_aload_n (pc := 107) C dX2_become_107 rfl ?_
      refine k_getI (pc := 108) C fl_X2_23 (k_in2 hg2) rfl rfl dX2_become_108 ?_
      refine k_putI (pc := 111) C pl_X2_23 (k_in2 hg) rfl rfl dX2_become_111 ?_
      exact k_vret (pc := 114) C rfl (k_fm rfl) dX2_become_114
    · skip
      try dsimp only at hk
      have hs : f_X2_bec2 (f_X2_bec1 mi g g2 6) g g2 j (0, g2, j) = mi (0, g2, j) := f_X2_bec2_s2 mi hne j j
      have hz1 : f_X2_bec2 (f_X2_bec1 mi g g2 6) g g2 j (0, g2, j) 1 = 0 ∨ f_X2_bec2 (f_X2_bec1 mi g g2 6) g g2 j (0, g2, j) 1 = 1 := by rw [hs]; exact (hZ j hj).2.1
      have hz2 : k_ui (f_X2_bec2 (f_X2_bec1 mi g g2 6) g g2 j) (0, g, j) 1 (f_X2_bec2 (f_X2_bec1 mi g g2 6) g g2 j (0, g2, j) 1) (0, g2, j) 2 = 0 ∨ k_ui (f_X2_bec2 (f_X2_bec1 mi g g2 6) g g2 j) (0, g, j) 1 (f_X2_bec2 (f_X2_bec1 mi g g2 6) g g2 j (0, g2, j) 1) (0, g2, j) 2 = 1 := by rw [k_ui_ne (by simp [Ne.symm hne]), hs]; exact (hZ j hj).2.2
      refine k_iload_n (pc := 43) C dX2_become_43 rfl ?_
      refine k_aload_n (pc := 44) C dX2_become_44 rfl ?_
      refine k_getR (pc := 45) (r := some (10, g, 0)) C fl_X2_19 (k_in2 hg) rfl rfl rfl dX2_become_45 ?_
      refine k_alen (pc := 48) (v := 6) C (k_in10 hg) ⟨Nat.le_of_ble_eq_true rfl, Nat.le_of_ble_eq_true rfl⟩ rfl dX2_become_48 ?_
      refine k_icmp_geF (pc := 49) C 82 dX2_become_49 (by decide) (k_nge (n := 6) rfl (by decide) hj) ?_
      refine k_iload_n (pc := 52) C dX2_become_52 rfl ?_
      refine k_aload_n (pc := 53) C dX2_become_53 rfl ?_
      refine k_getR (pc := 54) (r := some (10, g2, 0)) C fl_X2_19 (k_in2 hg2) rfl rfl rfl dX2_become_54 ?_
      refine k_alen (pc := 57) (v := 6) C (k_in10 hg2) ⟨Nat.le_of_ble_eq_true rfl, Nat.le_of_ble_eq_true rfl⟩ rfl dX2_become_57 ?_
      refine k_icmp_geF (pc := 58) C 82 dX2_become_58 (by decide) (k_nge (n := 6) rfl (by decide) hj) ?_
      refine k_aload_n (pc := 61) C dX2_become_61 rfl ?_
      refine k_getR (pc := 62) (r := some (10, g, 0)) C fl_X2_19 (k_in2 hg) rfl rfl rfl dX2_become_62 ?_
      refine k_iload_n (pc := 65) C dX2_become_65 rfl ?_
      refine k_aaldX (pc := 66) (j := j) (kr := (0, g, j)) C (nI_clamp (by omega)) (k_in10 hg) (Or.inl rfl) (vp_in_nI (show _ < (6 : Nat) by omega) (show (6 : Nat) < 2 ^ 31 by decide)) rfl dX2_become_66 ?_
      refine k_aload_n (pc := 67) C dX2_become_67 rfl ?_
      refine k_getR (pc := 68) (r := some (10, g2, 0)) C fl_X2_19 (k_in2 hg2) rfl rfl rfl dX2_become_68 ?_
      refine k_iload_n (pc := 71) C dX2_become_71 rfl ?_
      refine k_aaldX (pc := 72) (j := j) (kr := (0, g2, j)) C (nI_clamp (by omega)) (k_in10 hg2) (Or.inl rfl) (vp_in_nI (show _ < (6 : Nat) by omega) (show (6 : Nat) < 2 ^ 31 by decide)) rfl dX2_become_72 ?_
      refine k_callv1 (pc := 73) C cv_X2_35 (ct_X0_become hg hj hg2 hj (by assumption) (by assumption)) (k_in0 hg hj) rfl (by decide) rfl (Nat.le_of_ble_eq_true rfl) dX2_become_73 ?_
      refine k_iinc_2 (pc := 76) (v := nI (j + 1)) C dX2_become_76 (k_inc j) rfl ?_
      refine k_goto (pc := 79) C 43 dX2_become_79 (by decide) ?_
      exact k_cast rfl (by rw [f_X2_bec2_s]) rfl hk
  · skip
    try dsimp only at hk
    have hs : f_X2_bec1 mi g g2 j (1, g2, j) = mi (1, g2, j) := f_X2_bec1_s2 mi hne j j
    have hz1 : f_X2_bec1 mi g g2 j (1, g2, j) 1 = 0 ∨ f_X2_bec1 mi g g2 j (1, g2, j) 1 = 1 := by rw [hs]; exact (hZ j hj).1.1
    have hz2 : k_ui (f_X2_bec1 mi g g2 j) (1, g, j) 1 (f_X2_bec1 mi g g2 j (1, g2, j) 1) (1, g2, j) 2 = 0 ∨ k_ui (f_X2_bec1 mi g g2 j) (1, g, j) 1 (f_X2_bec1 mi g g2 j (1, g2, j) 1) (1, g2, j) 2 = 1 := by rw [k_ui_ne (by simp [Ne.symm hne]), hs]; exact (hZ j hj).1.2
    refine k_iload_n (pc := 2) C dX2_become_2 rfl ?_
    refine k_aload_n (pc := 3) C dX2_become_3 rfl ?_
    refine k_getR (pc := 4) (r := some (11, g, 0)) C fl_X2_11 (k_in2 hg) rfl rfl rfl dX2_become_4 ?_
    refine k_alen (pc := 7) (v := 6) C (k_in11 hg) ⟨Nat.le_of_ble_eq_true rfl, Nat.le_of_ble_eq_true rfl⟩ rfl dX2_become_7 ?_
    refine k_icmp_geF (pc := 8) C 41 dX2_become_8 (by decide) (k_nge (n := 6) rfl (by decide) hj) ?_
    refine k_iload_n (pc := 11) C dX2_become_11 rfl ?_
    refine k_aload_n (pc := 12) C dX2_become_12 rfl ?_
    refine k_getR (pc := 13) (r := some (11, g2, 0)) C fl_X2_11 (k_in2 hg2) rfl rfl rfl dX2_become_13 ?_
    refine k_alen (pc := 16) (v := 6) C (k_in11 hg2) ⟨Nat.le_of_ble_eq_true rfl, Nat.le_of_ble_eq_true rfl⟩ rfl dX2_become_16 ?_
    refine k_icmp_geF (pc := 17) C 41 dX2_become_17 (by decide) (k_nge (n := 6) rfl (by decide) hj) ?_
    refine k_aload_n (pc := 20) C dX2_become_20 rfl ?_
    refine k_getR (pc := 21) (r := some (11, g, 0)) C fl_X2_11 (k_in2 hg) rfl rfl rfl dX2_become_21 ?_
    refine k_iload_n (pc := 24) C dX2_become_24 rfl ?_
    refine k_aaldX (pc := 25) (j := j) (kr := (1, g, j)) C (nI_clamp (by omega)) (k_in11 hg) (Or.inr (Or.inl rfl)) (vp_in_nI (show _ < (6 : Nat) by omega) (show (6 : Nat) < 2 ^ 31 by decide)) rfl dX2_become_25 ?_
    refine k_aload_n (pc := 26) C dX2_become_26 rfl ?_
    refine k_getR (pc := 27) (r := some (11, g2, 0)) C fl_X2_11 (k_in2 hg2) rfl rfl rfl dX2_become_27 ?_
    refine k_iload_n (pc := 30) C dX2_become_30 rfl ?_
    refine k_aaldX (pc := 31) (j := j) (kr := (1, g2, j)) C (nI_clamp (by omega)) (k_in11 hg2) (Or.inr (Or.inl rfl)) (vp_in_nI (show _ < (6 : Nat) by omega) (show (6 : Nat) < 2 ^ 31 by decide)) rfl dX2_become_31 ?_
    refine k_callv1 (pc := 32) C cv_X2_31 (ct_X1_become hg hj hg2 hj (by assumption) (by assumption)) (k_in1 hg hj) rfl (by decide) rfl (Nat.le_of_ble_eq_true rfl) dX2_become_32 ?_
    refine k_iinc_2 (pc := 35) (v := nI (j + 1)) C dX2_become_35 (k_inc j) rfl ?_
    refine k_goto (pc := 38) C 2 dX2_become_38 (by decide) ?_
    exact k_cast rfl (by rw [f_X2_bec1_s]) rfl hk
