/-! Model: signs, numbers, words -/
/-- where the model reads: a row, its end, a place -/
def k_rd (mi : MemI) : Prop := ∃ sn len pl : Nat, sn < 8 ∧ len ≤ 160 ∧ pl ≤ len ∧ mi (7, 0, 0) 28 = nI (160 * sn) ∧ mi (7, 0, 0) 30 = nI len ∧ mi (7, 0, 0) 29 = nI pl
theorem rd_ui {mi : MemI} {k : Ky} {j : Nat} {v : Int32} (h : k_rd mi) (h1 : ¬ (k = (7, 0, 0) ∧ (j = 28 ∨ j = 29 ∨ j = 30))) : k_rd (k_ui mi k j v) := by
  obtain ⟨sn, len, pl, a1, a2, a3, a4, a5, a6⟩ := h
  refine ⟨sn, len, pl, a1, a2, a3, ?_, ?_, ?_⟩
  · exact (if_neg (fun q => h1 ⟨q.1.symm, Or.inl q.2.symm⟩)).trans a4
  · exact (if_neg (fun q => h1 ⟨q.1.symm, Or.inr (Or.inr q.2.symm)⟩)).trans a5
  · exact (if_neg (fun q => h1 ⟨q.1.symm, Or.inr (Or.inl q.2.symm)⟩)).trans a6
theorem rd_pl {mi : MemI} {v : Int32} (h : k_rd mi) (hv : ∀ len pl : Nat, len ≤ 160 → pl ≤ len → mi (7, 0, 0) 30 = nI len → mi (7, 0, 0) 29 = nI pl → ∃ q : Nat, q ≤ len ∧ v = nI q) : k_rd (k_ui mi (7, 0, 0) 29 v) := by
  obtain ⟨sn, len, pl, a1, a2, a3, a4, a5, a6⟩ := h
  obtain ⟨q, hq, e⟩ := hv len pl a2 a3 a5 a6
  exact ⟨sn, len, q, a1, a2, hq, (k_uj (by decide)).trans a4, (k_uj (by decide)).trans a5, k_uis.trans e⟩
theorem rd_inc {mi : MemI} (h : k_rd mi) (hlt : ¬ mi (7, 0, 0) 30 ≤ mi (7, 0, 0) 29) : k_rd (k_ui mi (7, 0, 0) 29 (mi (7, 0, 0) 29 + 1)) :=
  rd_pl h (fun len pl h1 h2 e1 e2 => by
    rw [e1, e2] at hlt
    rcases Nat.lt_or_ge pl len with q | q
    · exact ⟨pl + 1, q, by rw [e2, nI_succ]⟩
    · exact absurd (nI_le q (by omega)) hlt)
theorem k_cin2 {mi : MemI} {j : Nat} (h : k_rd mi) (hj : j < 1000) (hlt : ¬ mi (7, 0, 0) 30 ≤ mi (7, 0, 0) 29 + nI j) : vp_in (mi (7, 0, 0) 28 + (mi (7, 0, 0) 29 + nI j)) 1280 := by
  obtain ⟨sn, len, pl, a1, a2, a3, a4, a5, a6⟩ := h
  rw [a5, a6, nI_add] at hlt
  rw [a4, a6, nI_add, nI_add]
  rcases Nat.lt_or_ge (pl + j) len with q | q
  · exact vp_in_nI (by omega) (by decide)
  · exact absurd (nI_le q (by omega)) hlt
theorem k_cinE {mi : MemI} {a b : Int32} (h : k_rd mi) (hlt : ¬ mi (7, 0, 0) 30 ≤ mi (7, 0, 0) 29) (e1 : mi (7, 0, 0) 28 = a) (e2 : mi (7, 0, 0) 29 = b) : vp_in (a + b) 1280 := by
  have := k_cin2 (j := 0) h (by decide) (by rw [show nI 0 = (0 : Int32) from rfl, Int32.add_zero]; exact hlt)
  rw [show nI 0 = (0 : Int32) from rfl, Int32.add_zero, e1, e2] at this
  exact this
theorem rd_incE {mi : MemI} {a b v : Int32} (h : k_rd mi) (e30 : mi (7, 0, 0) 30 = a) (e29 : mi (7, 0, 0) 29 = b) (hlt : ¬ a ≤ b) (ev : v = b + 1) : k_rd (k_ui mi (7, 0, 0) 29 v) := by
  subst e30; subst e29; subst ev
  exact rd_inc h hlt
theorem k_cin {mi : MemI} (h : k_rd mi) (hlt : ¬ mi (7, 0, 0) 30 ≤ mi (7, 0, 0) 29) : vp_in (mi (7, 0, 0) 28 + mi (7, 0, 0) 29) 1280 := by
  have := k_cin2 (j := 0) h (by decide) (by rw [show nI 0 = (0 : Int32) from rfl, Int32.add_zero]; exact hlt)
  rw [show nI 0 = (0 : Int32) from rfl, Int32.add_zero] at this
  exact this
def f_X7_isDigit (mi : MemI) (ml : MemL) : Int32 :=
  if (mi (7, 0, 0) 30) ≤ (mi (7, 0, 0) 29) then 0
  else if ((ml (9, 1, 0) (((mi (7, 0, 0) 28) + (mi (7, 0, 0) 29)).toNatClampNeg)).toInt32) < 48 then 0
    else if 57 < ((ml (9, 1, 0) (((mi (7, 0, 0) 28) + (mi (7, 0, 0) 29)).toNatClampNeg)).toInt32) then 0
      else 1
set_option maxRecDepth 100000 in
set_option maxHeartbeats 4000000 in
theorem ct_X7_isDigit {mi : MemI} {ml : MemL}  (hrd : k_rd mi) : k_Ct k_KS k_R0 Mt_X7_isDigit 0 [vR (7, 0, 0)] mi ml (k_rt (some (vI (f_X7_isDigit mi ml))) mi ml) := by
  refine k_ofV (L0 := [vR (7, 0, 0)]) (by decide +kernel) (Nat.le_of_ble_eq_true rfl) rfl rfl ?_
  intro p l e s m args below meth c D cy ad bs C
  refine k_aload_n (pc := 0) C dX7_isDigit_0 rfl ?_
  refine k_getI (pc := 1) C fl_X7_170 k_in7 rfl rfl dX7_isDigit_1 ?_
  refine k_aload_n (pc := 4) C dX7_isDigit_4 rfl ?_
  refine k_getI (pc := 5) C fl_X7_173 k_in7 rfl rfl dX7_isDigit_5 ?_
  refine k_icmp_ge (pc := 8) C 55 dX7_isDigit_8 (by decide) (fun c8 => ?_) (fun c8 => ?_)
  · skip
    refine k_iconst (pc := 55) (v := 0) C dX7_isDigit_55 (by decide) ?_
    exact k_zret (pc := 56) C rfl (Or.inl rfl) (k_fI (by unfold f_X7_isDigit; rw [if_pos c8]; try rfl)) dX7_isDigit_56
  · skip
    refine k_aload_n (pc := 11) C dX7_isDigit_11 rfl ?_
    refine k_getR (pc := 12) (r := some (9, 1, 0)) C fl_X7_68 k_in7 rfl rfl rfl dX7_isDigit_12 ?_
    refine k_aload_n (pc := 15) C dX7_isDigit_15 rfl ?_
    refine k_getI (pc := 16) C fl_X7_176 k_in7 rfl rfl dX7_isDigit_16 ?_
    refine k_aload_n (pc := 19) C dX7_isDigit_19 rfl ?_
    refine k_getI (pc := 20) C fl_X7_170 k_in7 rfl rfl dX7_isDigit_20 ?_
    refine k_iadd (pc := 23) C dX7_isDigit_23 ?_
    refine k_laldX (pc := 24) (j := ((mi (7, 0, 0) 28) + (mi (7, 0, 0) 29)).toNatClampNeg) C rfl (by decide +kernel) rfl (k_cin hrd c8) dX7_isDigit_24 ?_
    refine k_l2i (pc := 25) C dX7_isDigit_25 ?_
    refine k_bipush (pc := 26) (v := 48) C dX7_isDigit_26 (by decide) ?_
    refine k_icmp_lt (pc := 28) C 55 dX7_isDigit_28 (by decide) (fun c28 => ?_) (fun c28 => ?_)
    · skip
      refine k_iconst (pc := 55) (v := 0) C dX7_isDigit_55 (by decide) ?_
      exact k_zret (pc := 56) C rfl (Or.inl rfl) (k_fI (by unfold f_X7_isDigit; rw [if_neg c8, if_pos c28]; try rfl)) dX7_isDigit_56
    · skip
      refine k_aload_n (pc := 31) C dX7_isDigit_31 rfl ?_
      refine k_getR (pc := 32) (r := some (9, 1, 0)) C fl_X7_68 k_in7 rfl rfl rfl dX7_isDigit_32 ?_
      refine k_aload_n (pc := 35) C dX7_isDigit_35 rfl ?_
      refine k_getI (pc := 36) C fl_X7_176 k_in7 rfl rfl dX7_isDigit_36 ?_
      refine k_aload_n (pc := 39) C dX7_isDigit_39 rfl ?_
      refine k_getI (pc := 40) C fl_X7_170 k_in7 rfl rfl dX7_isDigit_40 ?_
      refine k_iadd (pc := 43) C dX7_isDigit_43 ?_
      refine k_laldX (pc := 44) (j := ((mi (7, 0, 0) 28) + (mi (7, 0, 0) 29)).toNatClampNeg) C rfl (by decide +kernel) rfl (k_cin hrd c8) dX7_isDigit_44 ?_
      refine k_l2i (pc := 45) C dX7_isDigit_45 ?_
      refine k_bipush (pc := 46) (v := 57) C dX7_isDigit_46 (by decide) ?_
      refine k_icmp_gt (pc := 48) C 55 dX7_isDigit_48 (by decide) (fun c48 => ?_) (fun c48 => ?_)
      · skip
        refine k_iconst (pc := 55) (v := 0) C dX7_isDigit_55 (by decide) ?_
        exact k_zret (pc := 56) C rfl (Or.inl rfl) (k_fI (by unfold f_X7_isDigit; rw [if_neg c8, if_neg c28, if_pos c48]; try rfl)) dX7_isDigit_56
      · skip
        refine k_iconst (pc := 51) (v := 1) C dX7_isDigit_51 (by decide) ?_
        refine k_goto (pc := 52) C 56 dX7_isDigit_52 (by decide) ?_
        exact k_zret (pc := 56) C rfl (Or.inr rfl) (k_fI (by unfold f_X7_isDigit; rw [if_neg c8, if_neg c28, if_neg c48]; try rfl)) dX7_isDigit_56
theorem isDigit_lt {mi : MemI} {ml : MemL} (h : ¬ f_X7_isDigit mi ml = 0) : ¬ mi (7, 0, 0) 30 ≤ mi (7, 0, 0) 29 := by
  intro q
  apply h
  unfold f_X7_isDigit
  rw [if_pos q]
theorem isDigit_ltE {mi : MemI} {ml : MemL} {a b : Int32} (h : ¬ f_X7_isDigit mi ml = 0) (e30 : mi (7, 0, 0) 30 = a) (e29 : mi (7, 0, 0) 29 = b) : ¬ a ≤ b := by
  subst e30; subst e29
  exact isDigit_lt h
theorem z_X7_isDigit (mi : MemI) (ml : MemL) : f_X7_isDigit mi ml = 0 ∨ f_X7_isDigit mi ml = 1 := by
  unfold f_X7_isDigit
  repeat' split
  all_goals first | exact Or.inl rfl | exact Or.inr rfl
def f_X7_reads (mi : MemI) (ml : MemL) : Int32 × MemI :=
  if (f_X7_isDigit (k_ui mi (7, 0, 0) 31 0) ml) = 0 then ((f_X7_wrong (k_ui mi (7, 0, 0) 31 0) (mi (7, 0, 0) 29)).1, (f_X7_wrong (k_ui mi (7, 0, 0) 31 0) (mi (7, 0, 0) 29)).2)
  else if (f_X7_isDigit (k_ui (k_ui (k_ui mi (7, 0, 0) 31 0) (7, 0, 0) 31 ((0 + ((ml (9, 1, 0) (((mi (7, 0, 0) 28) + (mi (7, 0, 0) 29)).toNatClampNeg)).toInt32)) - 48)) (7, 0, 0) 29 ((mi (7, 0, 0) 29) + 1)) ml) = 0 then (1, k_ui (k_ui (k_ui mi (7, 0, 0) 31 0) (7, 0, 0) 31 ((0 + ((ml (9, 1, 0) (((mi (7, 0, 0) 28) + (mi (7, 0, 0) 29)).toNatClampNeg)).toInt32)) - 48)) (7, 0, 0) 29 ((mi (7, 0, 0) 29) + 1))
    else (1, k_ui (k_ui (k_ui (k_ui (k_ui mi (7, 0, 0) 31 0) (7, 0, 0) 31 ((0 + ((ml (9, 1, 0) (((mi (7, 0, 0) 28) + (mi (7, 0, 0) 29)).toNatClampNeg)).toInt32)) - 48)) (7, 0, 0) 29 ((mi (7, 0, 0) 29) + 1)) (7, 0, 0) 31 (((10 * ((0 + ((ml (9, 1, 0) (((mi (7, 0, 0) 28) + (mi (7, 0, 0) 29)).toNatClampNeg)).toInt32)) - 48)) + ((ml (9, 1, 0) (((mi (7, 0, 0) 28) + ((mi (7, 0, 0) 29) + 1)).toNatClampNeg)).toInt32)) - 48)) (7, 0, 0) 29 (((mi (7, 0, 0) 29) + 1) + 1))
set_option maxRecDepth 100000 in
set_option maxHeartbeats 4000000 in
theorem ct_X7_reads {mi : MemI} {ml : MemL}  (hrd : k_rd mi) : k_Ct k_KS k_R0 Mt_X7_reads 1 [vR (7, 0, 0)] mi ml (k_rt (some (vI (f_X7_reads mi ml).1)) (f_X7_reads mi ml).2 ml) := by
  refine k_ofV (L0 := [vR (7, 0, 0), vU]) (by decide +kernel) (Nat.le_of_ble_eq_true rfl) rfl rfl ?_
  intro p l e s m args below meth c D cy ad bs C
  refine k_aload_n (pc := 0) C dX7_reads_0 rfl ?_
  refine k_iconst (pc := 1) (v := 0) C dX7_reads_1 (by decide) ?_
  refine k_putI (pc := 2) C pl_X7_179 k_in7 rfl rfl dX7_reads_2 ?_
  refine k_aload_n (pc := 5) C dX7_reads_5 rfl ?_
  refine k_call0 (pc := 6) C cv_X7_182 (ct_X7_isDigit (rd_ui hrd (by simp))) k_in7 rfl (by decide) rfl (Nat.le_of_ble_eq_true rfl) dX7_reads_6 ?_
  refine k_if_ne (pc := 9) C 21 dX7_reads_9 (by decide) (fun c9 => ?_) (fun c9 => ?_)
  · skip
    refine k_iconst (pc := 21) (v := 0) C dX7_reads_21 (by decide) ?_
    refine k_istore_1 (pc := 22) C dX7_reads_22 rfl ?_
    refine k_iload_n (pc := 23) C dX7_reads_23 rfl ?_
    refine k_iconst (pc := 24) (v := 2) C dX7_reads_24 (by decide) ?_
    refine k_icmp_geF (pc := 25) C 81 dX7_reads_25 (by decide) (by decide) ?_
    refine k_aload_n (pc := 28) C dX7_reads_28 rfl ?_
    refine k_call0 (pc := 29) C cv_X7_182 (ct_X7_isDigit (rd_ui hrd (by simp))) k_in7 rfl (by decide) rfl (Nat.le_of_ble_eq_true rfl) dX7_reads_29 ?_
    refine k_if_eqF (pc := 32) C 81 dX7_reads_32 (by decide) c9 ?_
    refine k_aload_n (pc := 35) C dX7_reads_35 rfl ?_
    refine k_bipush (pc := 36) (v := 10) C dX7_reads_36 (by decide) ?_
    refine k_aload_n (pc := 38) C dX7_reads_38 rfl ?_
    refine k_getI (pc := 39) C fl_X7_179 k_in7 rfl rfl dX7_reads_39 ?_
    refine k_sx (x := 0) (k_uis) ?_
    refine k_imul (pc := 42) C dX7_reads_42 ?_
    refine k_sx (x := 0) (by decide) ?_
    refine k_aload_n (pc := 43) C dX7_reads_43 rfl ?_
    refine k_getR (pc := 44) (r := some (9, 1, 0)) C fl_X7_68 k_in7 rfl rfl rfl dX7_reads_44 ?_
    refine k_aload_n (pc := 47) C dX7_reads_47 rfl ?_
    refine k_getI (pc := 48) C fl_X7_176 k_in7 rfl rfl dX7_reads_48 ?_
    refine k_sx (x := mi (7, 0, 0) 28) (k_uj (by decide)) ?_
    refine k_aload_n (pc := 51) C dX7_reads_51 rfl ?_
    refine k_getI (pc := 52) C fl_X7_170 k_in7 rfl rfl dX7_reads_52 ?_
    refine k_sx (x := mi (7, 0, 0) 29) (k_uj (by decide)) ?_
    refine k_iadd (pc := 55) C dX7_reads_55 ?_
    refine k_laldX (pc := 56) (j := ((mi (7, 0, 0) 28) + (mi (7, 0, 0) 29)).toNatClampNeg) C rfl (by decide +kernel) rfl (k_cinE (mi := k_ui mi (7, 0, 0) 31 0) (rd_ui hrd (by simp)) (isDigit_lt c9) (k_uj (by decide)) (k_uj (by decide))) dX7_reads_56 ?_
    refine k_l2i (pc := 57) C dX7_reads_57 ?_
    refine k_iadd (pc := 58) C dX7_reads_58 ?_
    refine k_bipush (pc := 59) (v := 48) C dX7_reads_59 (by decide) ?_
    refine k_isub (pc := 61) C dX7_reads_61 ?_
    refine k_putI (pc := 62) C pl_X7_179 k_in7 rfl rfl dX7_reads_62 ?_
    refine k_aload_n (pc := 65) C dX7_reads_65 rfl ?_
    refine k_dup (pc := 66) C dX7_reads_66 rfl ?_
    refine k_getI (pc := 67) C fl_X7_170 k_in7 rfl rfl dX7_reads_67 ?_
    refine k_sx (x := mi (7, 0, 0) 29) (Eq.trans (k_uj (by decide)) (k_uj (by decide))) ?_
    refine k_iconst (pc := 70) (v := 1) C dX7_reads_70 (by decide) ?_
    refine k_iadd (pc := 71) C dX7_reads_71 ?_
    refine k_putI (pc := 72) C pl_X7_170 k_in7 rfl rfl dX7_reads_72 ?_
    have hrd1 : k_rd (k_ui (k_ui (k_ui mi (7, 0, 0) 31 0) (7, 0, 0) 31 ((0 + ((ml (9, 1, 0) (((mi (7, 0, 0) 28) + (mi (7, 0, 0) 29)).toNatClampNeg)).toInt32)) - 48)) (7, 0, 0) 29 ((mi (7, 0, 0) 29) + 1)) := rd_incE (mi := (k_ui (k_ui mi (7, 0, 0) 31 0) (7, 0, 0) 31 ((0 + ((ml (9, 1, 0) (((mi (7, 0, 0) 28) + (mi (7, 0, 0) 29)).toNatClampNeg)).toInt32)) - 48))) (rd_ui (rd_ui hrd (by simp)) (by simp)) (Eq.trans (k_uj (by decide)) (k_uj (by decide))) (Eq.trans (k_uj (by decide)) (k_uj (by decide))) (isDigit_ltE (mi := k_ui mi (7, 0, 0) 31 0) c9 (k_uj (by decide)) (k_uj (by decide))) rfl
    refine k_iinc_1 (pc := 75) (v := 1) C dX7_reads_75 (by decide) rfl ?_
    refine k_goto (pc := 78) C 23 dX7_reads_78 (by decide) ?_
    refine k_iload_n (pc := 23) C dX7_reads_23 rfl ?_
    refine k_iconst (pc := 24) (v := 2) C dX7_reads_24 (by decide) ?_
    refine k_icmp_geF (pc := 25) C 81 dX7_reads_25 (by decide) (by decide) ?_
    refine k_aload_n (pc := 28) C dX7_reads_28 rfl ?_
    refine k_call0 (pc := 29) C cv_X7_182 (ct_X7_isDigit hrd1) k_in7 rfl (by decide) rfl (Nat.le_of_ble_eq_true rfl) dX7_reads_29 ?_
    refine k_if_eq (pc := 32) C 81 dX7_reads_32 (by decide) (fun c32 => ?_) (fun c32 => ?_)
    · skip
      refine k_iconst (pc := 81) (v := 1) C dX7_reads_81 (by decide) ?_
      exact k_zret (pc := 82) C rfl (Or.inr rfl) (k_fIm (by unfold f_X7_reads; rw [if_neg c9, if_pos c32]; try rfl)) dX7_reads_82
    · skip
      refine k_aload_n (pc := 35) C dX7_reads_35 rfl ?_
      refine k_bipush (pc := 36) (v := 10) C dX7_reads_36 (by decide) ?_
      refine k_aload_n (pc := 38) C dX7_reads_38 rfl ?_
      refine k_getI (pc := 39) C fl_X7_179 k_in7 rfl rfl dX7_reads_39 ?_
      refine k_sx (x := (0 + ((ml (9, 1, 0) (((mi (7, 0, 0) 28) + (mi (7, 0, 0) 29)).toNatClampNeg)).toInt32)) - 48) (Eq.trans (k_uj (by decide)) (k_uis)) ?_
      refine k_imul (pc := 42) C dX7_reads_42 ?_
      refine k_aload_n (pc := 43) C dX7_reads_43 rfl ?_
      refine k_getR (pc := 44) (r := some (9, 1, 0)) C fl_X7_68 k_in7 rfl rfl rfl dX7_reads_44 ?_
      refine k_aload_n (pc := 47) C dX7_reads_47 rfl ?_
      refine k_getI (pc := 48) C fl_X7_176 k_in7 rfl rfl dX7_reads_48 ?_
      refine k_sx (x := mi (7, 0, 0) 28) (Eq.trans (k_uj (by decide)) (Eq.trans (k_uj (by decide)) (k_uj (by decide)))) ?_
      refine k_aload_n (pc := 51) C dX7_reads_51 rfl ?_
      refine k_getI (pc := 52) C fl_X7_170 k_in7 rfl rfl dX7_reads_52 ?_
      refine k_sx (x := (mi (7, 0, 0) 29) + 1) (k_uis) ?_
      refine k_iadd (pc := 55) C dX7_reads_55 ?_
      refine k_laldX (pc := 56) (j := ((mi (7, 0, 0) 28) + ((mi (7, 0, 0) 29) + 1)).toNatClampNeg) C rfl (by decide +kernel) rfl (k_cinE (mi := k_ui (k_ui (k_ui mi (7, 0, 0) 31 0) (7, 0, 0) 31 ((0 + ((ml (9, 1, 0) (((mi (7, 0, 0) 28) + (mi (7, 0, 0) 29)).toNatClampNeg)).toInt32)) - 48)) (7, 0, 0) 29 ((mi (7, 0, 0) 29) + 1)) hrd1 (isDigit_lt c32) (Eq.trans (k_uj (by decide)) (Eq.trans (k_uj (by decide)) (k_uj (by decide)))) (k_uis)) dX7_reads_56 ?_
      refine k_l2i (pc := 57) C dX7_reads_57 ?_
      refine k_iadd (pc := 58) C dX7_reads_58 ?_
      refine k_bipush (pc := 59) (v := 48) C dX7_reads_59 (by decide) ?_
      refine k_isub (pc := 61) C dX7_reads_61 ?_
      refine k_putI (pc := 62) C pl_X7_179 k_in7 rfl rfl dX7_reads_62 ?_
      refine k_aload_n (pc := 65) C dX7_reads_65 rfl ?_
      refine k_dup (pc := 66) C dX7_reads_66 rfl ?_
      refine k_getI (pc := 67) C fl_X7_170 k_in7 rfl rfl dX7_reads_67 ?_
      refine k_sx (x := (mi (7, 0, 0) 29) + 1) (Eq.trans (k_uj (by decide)) (k_uis)) ?_
      refine k_iconst (pc := 70) (v := 1) C dX7_reads_70 (by decide) ?_
      refine k_iadd (pc := 71) C dX7_reads_71 ?_
      refine k_putI (pc := 72) C pl_X7_170 k_in7 rfl rfl dX7_reads_72 ?_
      have hrd2 : k_rd (k_ui (k_ui (k_ui (k_ui (k_ui mi (7, 0, 0) 31 0) (7, 0, 0) 31 ((0 + ((ml (9, 1, 0) (((mi (7, 0, 0) 28) + (mi (7, 0, 0) 29)).toNatClampNeg)).toInt32)) - 48)) (7, 0, 0) 29 ((mi (7, 0, 0) 29) + 1)) (7, 0, 0) 31 (((10 * ((0 + ((ml (9, 1, 0) (((mi (7, 0, 0) 28) + (mi (7, 0, 0) 29)).toNatClampNeg)).toInt32)) - 48)) + ((ml (9, 1, 0) (((mi (7, 0, 0) 28) + ((mi (7, 0, 0) 29) + 1)).toNatClampNeg)).toInt32)) - 48)) (7, 0, 0) 29 (((mi (7, 0, 0) 29) + 1) + 1)) := rd_incE (mi := (k_ui (k_ui (k_ui (k_ui mi (7, 0, 0) 31 0) (7, 0, 0) 31 ((0 + ((ml (9, 1, 0) (((mi (7, 0, 0) 28) + (mi (7, 0, 0) 29)).toNatClampNeg)).toInt32)) - 48)) (7, 0, 0) 29 ((mi (7, 0, 0) 29) + 1)) (7, 0, 0) 31 (((10 * ((0 + ((ml (9, 1, 0) (((mi (7, 0, 0) 28) + (mi (7, 0, 0) 29)).toNatClampNeg)).toInt32)) - 48)) + ((ml (9, 1, 0) (((mi (7, 0, 0) 28) + ((mi (7, 0, 0) 29) + 1)).toNatClampNeg)).toInt32)) - 48))) (rd_ui hrd1 (by simp)) (Eq.trans (k_uj (by decide)) (Eq.trans (k_uj (by decide)) (Eq.trans (k_uj (by decide)) (k_uj (by decide))))) (Eq.trans (k_uj (by decide)) (k_uis)) (isDigit_ltE (mi := k_ui (k_ui (k_ui mi (7, 0, 0) 31 0) (7, 0, 0) 31 ((0 + ((ml (9, 1, 0) (((mi (7, 0, 0) 28) + (mi (7, 0, 0) 29)).toNatClampNeg)).toInt32)) - 48)) (7, 0, 0) 29 ((mi (7, 0, 0) 29) + 1)) c32 (Eq.trans (k_uj (by decide)) (Eq.trans (k_uj (by decide)) (k_uj (by decide)))) (k_uis)) rfl
      refine k_iinc_1 (pc := 75) (v := 2) C dX7_reads_75 (by decide) rfl ?_
      refine k_goto (pc := 78) C 23 dX7_reads_78 (by decide) ?_
      refine k_iload_n (pc := 23) C dX7_reads_23 rfl ?_
      refine k_iconst (pc := 24) (v := 2) C dX7_reads_24 (by decide) ?_
      refine k_icmp_geT (pc := 25) C 81 dX7_reads_25 (by decide) (by decide) ?_
      refine k_iconst (pc := 81) (v := 1) C dX7_reads_81 (by decide) ?_
      exact k_zret (pc := 82) C rfl (Or.inr rfl) (k_fIm (by unfold f_X7_reads; rw [if_neg c9, if_neg c32]; try rfl)) dX7_reads_82
  · skip
    refine k_aload_n (pc := 12) C dX7_reads_12 rfl ?_
    refine k_aload_n (pc := 13) C dX7_reads_13 rfl ?_
    refine k_getI (pc := 14) C fl_X7_170 k_in7 rfl rfl dX7_reads_14 ?_
    refine k_sx (x := mi (7, 0, 0) 29) (k_uj (by decide)) ?_
    refine k_call1 (pc := 17) C cv_X7_186 ct_X7_wrong k_in7 rfl (by decide) rfl (Nat.le_of_ble_eq_true rfl) dX7_reads_17 ?_
    exact k_zret (pc := 20) C rfl (Or.inl rfl) (k_fIm (by unfold f_X7_reads; rw [if_pos c9]; try rfl)) dX7_reads_20
theorem z_X7_reads (mi : MemI) (ml : MemL) : (f_X7_reads mi ml).1 = 0 ∨ (f_X7_reads mi ml).1 = 1 := by
  unfold f_X7_reads
  repeat' split
  all_goals first | exact Or.inl rfl | exact Or.inr rfl
theorem rd_reads {mi : MemI} {ml : MemL} (h : k_rd mi) : k_rd (f_X7_reads mi ml).2 := by
  unfold f_X7_reads
  repeat' split
  · exact rd_ui (rd_ui h (by simp)) (by simp)
  · rename_i c1 c2
    exact rd_incE (rd_ui (rd_ui h (by simp)) (by simp)) ((k_uj (by decide)).trans (k_uj (by decide))) ((k_uj (by decide)).trans (k_uj (by decide))) (isDigit_ltE c1 (k_uj (by decide)) (k_uj (by decide))) rfl
  · rename_i c1 c2
    exact rd_incE (rd_ui (rd_incE (rd_ui (rd_ui h (by simp)) (by simp)) ((k_uj (by decide)).trans (k_uj (by decide))) ((k_uj (by decide)).trans (k_uj (by decide))) (isDigit_ltE c1 (k_uj (by decide)) (k_uj (by decide))) rfl) (by simp)) ((k_uj (by decide)).trans ((k_uj (by decide)).trans ((k_uj (by decide)).trans (k_uj (by decide))))) ((k_uj (by decide)).trans k_uis) (isDigit_ltE c2 ((k_uj (by decide)).trans ((k_uj (by decide)).trans (k_uj (by decide)))) k_uis) rfl
theorem reads_fr {mi : MemI} {ml : MemL} {k : Ky} {q : Nat} (h : ¬ (k = (7, 0, 0) ∧ (q = 29 ∨ q = 31 ∨ q = 32))) : (f_X7_reads mi ml).2 k q = mi k q := by
  have h29 : ∀ (m : MemI) (v : Int32), k_ui m (7, 0, 0) 29 v k q = m k q := fun m v => if_neg (fun z => h ⟨z.1, Or.inl z.2⟩)
  have h31 : ∀ (m : MemI) (v : Int32), k_ui m (7, 0, 0) 31 v k q = m k q := fun m v => if_neg (fun z => h ⟨z.1, Or.inr (Or.inl z.2)⟩)
  have h32 : ∀ (m : MemI) (v : Int32), k_ui m (7, 0, 0) 32 v k q = m k q := fun m v => if_neg (fun z => h ⟨z.1, Or.inr (Or.inr z.2)⟩)
  unfold f_X7_reads f_X7_wrong
  repeat' split
  all_goals simp only [h29, h31, h32]
def f_X7_isSo (mi : MemI) (w : Int32) (x : Int32) : Int32 :=
  if w = 0 then if (mi (8, 26, 0) x.toNatClampNeg) < (mi (7, 0, 0) 31) then 0
    else 1
  else if w = 1 then if x = 0 then (f_X7_isFrom (mi (7, 0, 0) 31) 1 9)
      else if 4 < (mi (7, 0, 0) 31) then 0
        else 1
    else if w = 5 then if (mi (7, 0, 0) 1) ≤ (mi (7, 0, 0) 31) then 0
        else 1
      else if x = 1 then 1
        else if (mi (7, 0, 0) 0) ≤ (mi (7, 0, 0) 31) then 0
          else 1
set_option maxRecDepth 100000 in
set_option maxHeartbeats 4000000 in
theorem ct_X7_isSo {mi : MemI} {ml : MemL} {w : Int32} {x : Int32} (hx : vp_in x 4) : k_Ct k_KS k_R0 Mt_X7_isSo 1 [vR (7, 0, 0), vI w, vI x] mi ml (k_rt (some (vI (f_X7_isSo mi w x))) mi ml) := by
  refine k_ofV (L0 := [vR (7, 0, 0), vI w, vI x]) (by decide +kernel) (Nat.le_of_ble_eq_true rfl) rfl rfl ?_
  intro p l e s m args below meth c D cy ad bs C
  refine k_iload_n (pc := 0) C dX7_isSo_0 rfl ?_
  refine k_if_ne (pc := 1) C 23 dX7_isSo_1 (by decide) (fun c1 => ?_) (fun c1 => ?_)
  · skip
    refine k_iload_n (pc := 23) C dX7_isSo_23 rfl ?_
    refine k_iconst (pc := 24) (v := 1) C dX7_isSo_24 (by decide) ?_
    refine k_icmp_ne (pc := 25) C 60 dX7_isSo_25 (by decide) (fun c25 => ?_) (fun c25 => ?_)
    · skip
      refine k_iload_n (pc := 60) C dX7_isSo_60 rfl ?_
      refine k_iconst (pc := 61) (v := 5) C dX7_isSo_61 (by decide) ?_
      refine k_icmp_ne (pc := 62) C 82 dX7_isSo_62 (by decide) (fun c62 => ?_) (fun c62 => ?_)
      · skip
        refine k_iload_n (pc := 82) C dX7_isSo_82 rfl ?_
        refine k_iconst (pc := 83) (v := 1) C dX7_isSo_83 (by decide) ?_
        refine k_icmp_eq (pc := 84) C 98 dX7_isSo_84 (by decide) (fun c84 => ?_) (fun c84 => ?_)
        · skip
          refine k_iconst (pc := 98) (v := 1) C dX7_isSo_98 (by decide) ?_
          refine k_goto (pc := 99) C 103 dX7_isSo_99 (by decide) ?_
          exact k_zret (pc := 103) C rfl (Or.inr rfl) (k_fI (by unfold f_X7_isSo; rw [if_neg c1, if_neg c25, if_neg c62, if_pos c84]; try rfl)) dX7_isSo_103
        · skip
          refine k_aload_n (pc := 87) C dX7_isSo_87 rfl ?_
          refine k_getI (pc := 88) C fl_X7_179 k_in7 rfl rfl dX7_isSo_88 ?_
          refine k_aload_n (pc := 91) C dX7_isSo_91 rfl ?_
          refine k_getI (pc := 92) C fl_X7_129 k_in7 rfl rfl dX7_isSo_92 ?_
          refine k_icmp_ge (pc := 95) C 102 dX7_isSo_95 (by decide) (fun c95 => ?_) (fun c95 => ?_)
          · skip
            refine k_iconst (pc := 102) (v := 0) C dX7_isSo_102 (by decide) ?_
            exact k_zret (pc := 103) C rfl (Or.inl rfl) (k_fI (by unfold f_X7_isSo; rw [if_neg c1, if_neg c25, if_neg c62, if_neg c84, if_pos c95]; try rfl)) dX7_isSo_103
          · skip
            refine k_iconst (pc := 98) (v := 1) C dX7_isSo_98 (by decide) ?_
            refine k_goto (pc := 99) C 103 dX7_isSo_99 (by decide) ?_
            exact k_zret (pc := 103) C rfl (Or.inr rfl) (k_fI (by unfold f_X7_isSo; rw [if_neg c1, if_neg c25, if_neg c62, if_neg c84, if_neg c95]; try rfl)) dX7_isSo_103
      · skip
        refine k_aload_n (pc := 65) C dX7_isSo_65 rfl ?_
        refine k_getI (pc := 66) C fl_X7_179 k_in7 rfl rfl dX7_isSo_66 ?_
        refine k_aload_n (pc := 69) C dX7_isSo_69 rfl ?_
        refine k_getI (pc := 70) C fl_X7_132 k_in7 rfl rfl dX7_isSo_70 ?_
        refine k_icmp_ge (pc := 73) C 80 dX7_isSo_73 (by decide) (fun c73 => ?_) (fun c73 => ?_)
        · skip
          refine k_iconst (pc := 80) (v := 0) C dX7_isSo_80 (by decide) ?_
          exact k_zret (pc := 81) C rfl (Or.inl rfl) (k_fI (by unfold f_X7_isSo; rw [if_neg c1, if_neg c25, if_pos c62, if_pos c73]; try rfl)) dX7_isSo_81
        · skip
          refine k_iconst (pc := 76) (v := 1) C dX7_isSo_76 (by decide) ?_
          refine k_goto (pc := 77) C 81 dX7_isSo_77 (by decide) ?_
          exact k_zret (pc := 81) C rfl (Or.inr rfl) (k_fI (by unfold f_X7_isSo; rw [if_neg c1, if_neg c25, if_pos c62, if_neg c73]; try rfl)) dX7_isSo_81
    · skip
      refine k_iload_n (pc := 28) C dX7_isSo_28 rfl ?_
      refine k_if_ne (pc := 29) C 46 dX7_isSo_29 (by decide) (fun c29 => ?_) (fun c29 => ?_)
      · skip
        refine k_aload_n (pc := 46) C dX7_isSo_46 rfl ?_
        refine k_getI (pc := 47) C fl_X7_179 k_in7 rfl rfl dX7_isSo_47 ?_
        refine k_iconst (pc := 50) (v := 4) C dX7_isSo_50 (by decide) ?_
        refine k_icmp_gt (pc := 51) C 58 dX7_isSo_51 (by decide) (fun c51 => ?_) (fun c51 => ?_)
        · skip
          refine k_iconst (pc := 58) (v := 0) C dX7_isSo_58 (by decide) ?_
          exact k_zret (pc := 59) C rfl (Or.inl rfl) (k_fI (by unfold f_X7_isSo; rw [if_neg c1, if_pos c25, if_neg c29, if_pos c51]; try rfl)) dX7_isSo_59
        · skip
          refine k_iconst (pc := 54) (v := 1) C dX7_isSo_54 (by decide) ?_
          refine k_goto (pc := 55) C 59 dX7_isSo_55 (by decide) ?_
          exact k_zret (pc := 59) C rfl (Or.inr rfl) (k_fI (by unfold f_X7_isSo; rw [if_neg c1, if_pos c25, if_neg c29, if_neg c51]; try rfl)) dX7_isSo_59
      · skip
        refine k_aload_n (pc := 32) C dX7_isSo_32 rfl ?_
        refine k_aload_n (pc := 33) C dX7_isSo_33 rfl ?_
        refine k_getI (pc := 34) C fl_X7_179 k_in7 rfl rfl dX7_isSo_34 ?_
        refine k_iconst (pc := 37) (v := 1) C dX7_isSo_37 (by decide) ?_
        refine k_bipush (pc := 38) (v := 9) C dX7_isSo_38 (by decide) ?_
        refine k_call3 (pc := 40) C cv_X7_149 ct_X7_isFrom k_in7 rfl (by decide) rfl (Nat.le_of_ble_eq_true rfl) dX7_isSo_40 ?_
        refine k_goto (pc := 43) C 59 dX7_isSo_43 (by decide) ?_
        exact k_zret (pc := 59) C rfl z_X7_isFrom (k_fI (by unfold f_X7_isSo; rw [if_neg c1, if_pos c25, if_pos c29]; try rfl)) dX7_isSo_59
  · skip
    refine k_aload_n (pc := 4) C dX7_isSo_4 rfl ?_
    refine k_getI (pc := 5) C fl_X7_179 k_in7 rfl rfl dX7_isSo_5 ?_
    refine k_aload_n (pc := 8) C dX7_isSo_8 rfl ?_
    refine k_getR (pc := 9) (r := some (8, 26, 0)) C fl_X7_81 k_in7 rfl rfl rfl dX7_isSo_9 ?_
    refine k_iload_n (pc := 12) C dX7_isSo_12 rfl ?_
    refine k_ialdX (pc := 13) (j := x.toNatClampNeg) C rfl (by decide +kernel) rfl hx dX7_isSo_13 ?_
    refine k_icmp_gt (pc := 14) C 21 dX7_isSo_14 (by decide) (fun c14 => ?_) (fun c14 => ?_)
    · skip
      refine k_iconst (pc := 21) (v := 0) C dX7_isSo_21 (by decide) ?_
      exact k_zret (pc := 22) C rfl (Or.inl rfl) (k_fI (by unfold f_X7_isSo; rw [if_pos c1, if_pos c14]; try rfl)) dX7_isSo_22
    · skip
      refine k_iconst (pc := 17) (v := 1) C dX7_isSo_17 (by decide) ?_
      refine k_goto (pc := 18) C 22 dX7_isSo_18 (by decide) ?_
      exact k_zret (pc := 22) C rfl (Or.inr rfl) (k_fI (by unfold f_X7_isSo; rw [if_pos c1, if_neg c14]; try rfl)) dX7_isSo_22
/-- the model's words, each with a blank and a nought behind it -/
def k_wl : List Int32 := [99, 105, 116, 105, 122, 101, 110, 32, 0, 98, 101, 103, 103, 97, 114, 32, 0, 119, 101, 97, 114, 32, 0, 104, 105, 100, 101, 115, 32, 0, 99, 111, 109, 101, 115, 32, 0, 112, 111, 115, 116, 32, 0]
def k_wd (j : Nat) : Int32 := k_wl.getD j 0
def k_wok (mi : MemI) : Prop := ∀ j, j < 43 → mi (8, 24, 0) j = k_wd j
theorem k_wok_ui {mi : MemI} {k : Ky} {j : Nat} {v : Int32} (h : k_wok mi) (h1 : k ≠ (8, 24, 0)) : k_wok (k_ui mi k j v) := fun q hq => (k_uk (Ne.symm h1)).trans (h q hq)
/-- how many letters of the word at p stand there, from the j-th on, of u -/
def f_X7_wm (mi : MemI) (ml : MemL) (p : Nat) : Nat → Nat → Nat
  | 0, j => j
  | u + 1, j => if (mi (7, 0, 0) 30) ≤ ((mi (7, 0, 0) 29) + (nI j)) then j else if ((ml (9, 1, 0) (((mi (7, 0, 0) 28) + ((mi (7, 0, 0) 29) + (nI j))).toNatClampNeg)).toInt32) = (k_wd (p + j)) then f_X7_wm mi ml p u (j + 1) else j
theorem f_X7_wm_s (mi : MemI) (ml : MemL) (p u j : Nat) : f_X7_wm mi ml p (u + 1) j = if (mi (7, 0, 0) 30) ≤ ((mi (7, 0, 0) 29) + (nI j)) then j else if ((ml (9, 1, 0) (((mi (7, 0, 0) 28) + ((mi (7, 0, 0) 29) + (nI j))).toNatClampNeg)).toInt32) = (k_wd (p + j)) then f_X7_wm mi ml p u (j + 1) else j := rfl
theorem wm_le (mi : MemI) (ml : MemL) (p : Nat) : ∀ u j, f_X7_wm mi ml p u j ≤ j + u := by
  intro u
  induction u with
  | zero => intro j; exact Nat.le_refl _
  | succ u ih =>
    intro j
    rw [f_X7_wm_s]
    have := ih (j + 1)
    repeat' split
    all_goals omega
/-- a whole word with its blank has its letters -/
theorem wm_all (mi : MemI) (ml : MemL) (p : Nat) : ∀ u j, f_X7_wm mi ml p (u + 1) j = j + u + 1 → f_X7_wm mi ml p u j = j + u := by
  intro u
  induction u with
  | zero => intro j _; rfl
  | succ u ih =>
    intro j h
    rw [f_X7_wm_s] at h ⊢
    split at h
    · omega
    · rename_i h1
      rw [if_neg h1]
      split at h
      · rename_i h2
        rw [if_pos h2, ih (j + 1) (by omega)]
        omega
      · omega
theorem wm_end {mi : MemI} {ml : MemL} {p : Nat} {len pl : Nat} (hl : len ≤ 160) (hp : pl ≤ len) (e1 : mi (7, 0, 0) 30 = nI len) (e2 : mi (7, 0, 0) 29 = nI pl) : ∀ u j, pl + j ≤ len → pl + f_X7_wm mi ml p u j ≤ len := by
  intro u
  induction u with
  | zero => intro j h; exact h
  | succ u ih =>
    intro j h
    rw [f_X7_wm_s]
    split
    · exact h
    · rename_i h1
      rw [e1, e2, nI_add] at h1
      split
      · refine ih (j + 1) ?_
        rcases Nat.lt_or_ge (pl + j) len with q | q
        · omega
        · exact absurd (nI_le q (by omega)) h1
      · exact h
theorem rd_wm {mi : MemI} {ml : MemL} {p u n : Nat} (h : k_rd mi) (e : f_X7_wm mi ml p u 0 = n) : k_rd (k_ui mi (7, 0, 0) 29 (mi (7, 0, 0) 29 + nI n)) :=
  rd_pl h (fun len pl h1 h2 e1 e2 => ⟨pl + n, by rw [← e]; exact wm_end h1 h2 e1 e2 u 0 h2, by rw [e2, nI_add]⟩)
theorem k_q1 (x : Int32) (j : Nat) : x + nI j + 1 = x + nI (j + 1) := by rw [nI_succ, Int32.add_assoc]
theorem k_q0 (x : Int32) : x = x + nI 0 := (Int32.add_zero x).symm
theorem k_mxle {x y : Int32} (h : y ≤ x) : k_mx x y = x := if_neg (Int32.not_lt.mpr h)
theorem k_mxgt {x y : Int32} (h : ¬ y ≤ x) : k_mx x y = y := if_pos (Int32.not_le.mp h)
def f_X7_stands0 (mi : MemI) (ml : MemL) : Int32 :=
  if (f_X7_wm mi ml 0 7 0) = 7 then 1
  else 0
set_option maxRecDepth 100000 in
set_option maxHeartbeats 4000000 in
theorem ct_X7_stands_0 {mi : MemI} {ml : MemL}  (hrd : k_rd mi) (hw : k_wok mi) : k_Ct k_KS k_R0 Mt_X7_stands 0 [vR (7, 0, 0), vI 0] mi ml (k_rt (some (vI (f_X7_stands0 mi ml))) mi ml) := by
  refine k_ofV (L0 := [vR (7, 0, 0), vI 0, vU, vU]) (by decide +kernel) (Nat.le_of_ble_eq_true rfl) rfl rfl ?_
  intro p l e s m args below meth c D cy ad bs C
  refine k_iconst (pc := 0) (v := 0) C dX7_stands_0 (by decide) ?_
  refine k_istore_2 (pc := 1) C dX7_stands_1 rfl ?_
  refine k_iconst (pc := 2) (v := 0) C dX7_stands_2 (by decide) ?_
  refine k_istore_3 (pc := 3) C dX7_stands_3 rfl ?_
  refine k_iload_n (pc := 4) C dX7_stands_4 rfl ?_
  refine k_iload_n (pc := 5) C dX7_stands_5 rfl ?_
  refine k_icmp_geT (pc := 6) C 32 dX7_stands_6 (by decide) (by decide) ?_
  refine k_aload_n (pc := 32) C dX7_stands_32 rfl ?_
  refine k_getI (pc := 33) C fl_X7_170 k_in7 rfl rfl dX7_stands_33 ?_
  refine k_istore_3 (pc := 36) C dX7_stands_36 rfl ?_
  refine k_cast (L' := [vR (7, 0, 0), vI 0, vI (nI (0 + 0)), vI ((mi (7, 0, 0) 29) + (nI 0))]) (by rw [← k_q0] <;> rfl) rfl rfl ?_
  have hloop : ∀ (u j : Nat), j + u = 7 → f_X7_wm mi ml 0 u j = f_X7_wm mi ml 0 7 0 → k_V p l e (k_rm 0) s m args below meth c D cy ad bs k_KS k_R0 0 0 (k_End below D cy ad bs k_KS k_R0 (k_rt (some (vI (f_X7_stands0 mi ml))) mi ml) args s) mi ml 37 [vR (7, 0, 0), vI 0, vI (nI (0 + j)), vI ((mi (7, 0, 0) 29) + (nI j))] [] := by
    intro u
    induction u with
    | zero =>
      intro j hju hres
      have hjn : j = 7 := (by omega)
      subst hjn
      have hM : f_X7_wm mi ml 0 7 0 = 7 := hres.symm
      refine k_cast (L' := [vR (7, 0, 0), vI 0, vI 7, vI ((mi (7, 0, 0) 29) + (nI 7))]) (by rfl) rfl rfl ?_
      refine k_aload_n (pc := 37) C dX7_stands_37 rfl ?_
      refine k_getR (pc := 38) (r := some (8, 24, 0)) C fl_X7_75 k_in7 rfl rfl rfl dX7_stands_38 ?_
      refine k_iload_n (pc := 41) C dX7_stands_41 rfl ?_
      refine k_ialdX (pc := 42) (j := 7) C (by decide) (by decide +kernel) rfl (k_vd (by decide)) dX7_stands_42 ?_
      refine k_sx (x := 32) ((hw 7 (by decide)).trans rfl) ?_
      refine k_bipush (pc := 43) (v := 32) C dX7_stands_43 (by decide) ?_
      refine k_icmp_leT (pc := 45) C 86 dX7_stands_45 (by decide) (by decide) ?_
      refine k_aload_n (pc := 86) C dX7_stands_86 rfl ?_
      refine k_getR (pc := 87) (r := some (8, 24, 0)) C fl_X7_75 k_in7 rfl rfl rfl dX7_stands_87 ?_
      refine k_iload_n (pc := 90) C dX7_stands_90 rfl ?_
      refine k_ialdX (pc := 91) (j := 7) C (by decide) (by decide +kernel) rfl (k_vd (by decide)) dX7_stands_91 ?_
      refine k_sx (x := 32) ((hw 7 (by decide)).trans rfl) ?_
      refine k_bipush (pc := 92) (v := 32) C dX7_stands_92 (by decide) ?_
      refine k_icmp_gtF (pc := 94) C 101 dX7_stands_94 (by decide) (by decide) ?_
      refine k_iconst (pc := 97) (v := 1) C dX7_stands_97 (by decide) ?_
      refine k_goto (pc := 98) C 102 dX7_stands_98 (by decide) ?_
      exact k_zret (pc := 102) C rfl (Or.inr rfl) (k_fI (by unfold f_X7_stands0; rw [if_pos hM]; try rfl)) dX7_stands_102
    | succ u ih =>
      intro j hju hres
      have hj : j < 7 := by omega
      have hkn : ¬ (k_wd (0 + j)) ≤ 32 := (by decide : ∀ j, j < 7 → ¬ (k_wd (0 + j)) ≤ 32) j hj
      refine k_aload_n (pc := 37) C dX7_stands_37 rfl ?_
      refine k_getR (pc := 38) (r := some (8, 24, 0)) C fl_X7_75 k_in7 rfl rfl rfl dX7_stands_38 ?_
      refine k_iload_n (pc := 41) C dX7_stands_41 rfl ?_
      refine k_ialdX (pc := 42) (j := (0 + j)) C (nI_clamp (by omega)) (by decide +kernel) rfl (vp_in_nI (show _ < (43 : Nat) by omega) (show (43 : Nat) < 2 ^ 31 by decide)) dX7_stands_42 ?_
      refine k_sx (x := k_wd (0 + j)) (hw (0 + j) (by omega)) ?_
      refine k_bipush (pc := 43) (v := 32) C dX7_stands_43 (by decide) ?_
      refine k_icmp_leF (pc := 45) C 86 dX7_stands_45 (by decide) hkn ?_
      refine k_iload_n (pc := 48) C dX7_stands_48 rfl ?_
      refine k_aload_n (pc := 49) C dX7_stands_49 rfl ?_
      refine k_getI (pc := 50) C fl_X7_173 k_in7 rfl rfl dX7_stands_50 ?_
      refine k_icmp_ge (pc := 53) C 86 dX7_stands_53 (by decide) (fun c53 => ?_) (fun c53 => ?_)
      · skip
        have hM : ¬ f_X7_wm mi ml 0 7 0 = 7 := by rw [← hres, f_X7_wm_s, if_pos c53]; omega
        have hkn2 := Int32.not_le.mp hkn
        refine k_aload_n (pc := 86) C dX7_stands_86 rfl ?_
        refine k_getR (pc := 87) (r := some (8, 24, 0)) C fl_X7_75 k_in7 rfl rfl rfl dX7_stands_87 ?_
        refine k_iload_n (pc := 90) C dX7_stands_90 rfl ?_
        refine k_ialdX (pc := 91) (j := (0 + j)) C (nI_clamp (by omega)) (by decide +kernel) rfl (vp_in_nI (show _ < (43 : Nat) by omega) (show (43 : Nat) < 2 ^ 31 by decide)) dX7_stands_91 ?_
        refine k_sx (x := k_wd (0 + j)) (hw (0 + j) (by omega)) ?_
        refine k_bipush (pc := 92) (v := 32) C dX7_stands_92 (by decide) ?_
        refine k_icmp_gtT (pc := 94) C 101 dX7_stands_94 (by decide) hkn2 ?_
        refine k_iconst (pc := 101) (v := 0) C dX7_stands_101 (by decide) ?_
        exact k_zret (pc := 102) C rfl (Or.inl rfl) (k_fI (by unfold f_X7_stands0; rw [if_neg hM]; try rfl)) dX7_stands_102
      · skip
        refine k_aload_n (pc := 56) C dX7_stands_56 rfl ?_
        refine k_getR (pc := 57) (r := some (9, 1, 0)) C fl_X7_68 k_in7 rfl rfl rfl dX7_stands_57 ?_
        refine k_aload_n (pc := 60) C dX7_stands_60 rfl ?_
        refine k_getI (pc := 61) C fl_X7_176 k_in7 rfl rfl dX7_stands_61 ?_
        refine k_iload_n (pc := 64) C dX7_stands_64 rfl ?_
        refine k_iadd (pc := 65) C dX7_stands_65 ?_
        refine k_laldX (pc := 66) (j := ((mi (7, 0, 0) 28) + ((mi (7, 0, 0) 29) + (nI j))).toNatClampNeg) C rfl (by decide +kernel) rfl (k_cin2 hrd (show j < 1000 by omega) c53) dX7_stands_66 ?_
        refine k_l2i (pc := 67) C dX7_stands_67 ?_
        refine k_aload_n (pc := 68) C dX7_stands_68 rfl ?_
        refine k_getR (pc := 69) (r := some (8, 24, 0)) C fl_X7_75 k_in7 rfl rfl rfl dX7_stands_69 ?_
        refine k_iload_n (pc := 72) C dX7_stands_72 rfl ?_
        refine k_ialdX (pc := 73) (j := (0 + j)) C (nI_clamp (by omega)) (by decide +kernel) rfl (vp_in_nI (show _ < (43 : Nat) by omega) (show (43 : Nat) < 2 ^ 31 by decide)) dX7_stands_73 ?_
        refine k_sx (x := k_wd (0 + j)) (hw (0 + j) (by omega)) ?_
        refine k_icmp_ne (pc := 74) C 86 dX7_stands_74 (by decide) (fun c74 => ?_) (fun c74 => ?_)
        · skip
          have hM : ¬ f_X7_wm mi ml 0 7 0 = 7 := by rw [← hres, f_X7_wm_s, if_neg c53, if_neg c74]; omega
          have hkn2 := Int32.not_le.mp hkn
          refine k_aload_n (pc := 86) C dX7_stands_86 rfl ?_
          refine k_getR (pc := 87) (r := some (8, 24, 0)) C fl_X7_75 k_in7 rfl rfl rfl dX7_stands_87 ?_
          refine k_iload_n (pc := 90) C dX7_stands_90 rfl ?_
          refine k_ialdX (pc := 91) (j := (0 + j)) C (nI_clamp (by omega)) (by decide +kernel) rfl (vp_in_nI (show _ < (43 : Nat) by omega) (show (43 : Nat) < 2 ^ 31 by decide)) dX7_stands_91 ?_
          refine k_sx (x := k_wd (0 + j)) (hw (0 + j) (by omega)) ?_
          refine k_bipush (pc := 92) (v := 32) C dX7_stands_92 (by decide) ?_
          refine k_icmp_gtT (pc := 94) C 101 dX7_stands_94 (by decide) hkn2 ?_
          refine k_iconst (pc := 101) (v := 0) C dX7_stands_101 (by decide) ?_
          exact k_zret (pc := 102) C rfl (Or.inl rfl) (k_fI (by unfold f_X7_stands0; rw [if_neg hM]; try rfl)) dX7_stands_102
        · skip
          refine k_iinc_3 (pc := 77) (v := ((mi (7, 0, 0) 29) + (nI j)) + 1) C dX7_stands_77 rfl rfl ?_
          refine k_iinc_2 (pc := 80) (v := nI ((0 + j) + 1)) C dX7_stands_80 (k_inc (0 + j)) rfl ?_
          refine k_goto (pc := 83) C 37 dX7_stands_83 (by decide) ?_
          exact k_cast (L' := [vR (7, 0, 0), vI 0, vI (nI (0 + (j + 1))), vI ((mi (7, 0, 0) 29) + (nI (j + 1)))]) (by rw [k_q1]; rfl) rfl rfl (ih (j + 1) (by omega) (by rw [← hres, f_X7_wm_s, if_neg c53, if_pos c74]))
  exact hloop 7 0 rfl rfl
def f_X7_stands1 (mi : MemI) (ml : MemL) : Int32 :=
  if (f_X7_wm mi ml 9 6 0) = 6 then 1
  else 0
set_option maxRecDepth 100000 in
set_option maxHeartbeats 4000000 in
theorem ct_X7_stands_1 {mi : MemI} {ml : MemL}  (hrd : k_rd mi) (hw : k_wok mi) : k_Ct k_KS k_R0 Mt_X7_stands 0 [vR (7, 0, 0), vI 1] mi ml (k_rt (some (vI (f_X7_stands1 mi ml))) mi ml) := by
  refine k_ofV (L0 := [vR (7, 0, 0), vI 1, vU, vU]) (by decide +kernel) (Nat.le_of_ble_eq_true rfl) rfl rfl ?_
  intro p l e s m args below meth c D cy ad bs C
  refine k_iconst (pc := 0) (v := 0) C dX7_stands_0 (by decide) ?_
  refine k_istore_2 (pc := 1) C dX7_stands_1 rfl ?_
  refine k_iconst (pc := 2) (v := 0) C dX7_stands_2 (by decide) ?_
  refine k_istore_3 (pc := 3) C dX7_stands_3 rfl ?_
  refine k_iload_n (pc := 4) C dX7_stands_4 rfl ?_
  refine k_iload_n (pc := 5) C dX7_stands_5 rfl ?_
  refine k_icmp_geF (pc := 6) C 32 dX7_stands_6 (by decide) (by decide) ?_
  refine k_iload_n (pc := 9) C dX7_stands_9 rfl ?_
  refine k_aload_n (pc := 10) C dX7_stands_10 rfl ?_
  refine k_getR (pc := 11) (r := some (8, 24, 0)) C fl_X7_75 k_in7 rfl rfl rfl dX7_stands_11 ?_
  refine k_iload_n (pc := 14) C dX7_stands_14 rfl ?_
  refine k_ialdX (pc := 15) (j := 0) C (by decide) (by decide +kernel) rfl (k_vd (by decide)) dX7_stands_15 ?_
  refine k_sx (x := 99) ((hw 0 (by decide)).trans rfl) ?_
  refine k_if_neT (pc := 16) C 23 dX7_stands_16 (by decide) (by decide) ?_
  refine k_iconst (pc := 23) (v := 0) C dX7_stands_23 (by decide) ?_
  refine k_iadd (pc := 24) C dX7_stands_24 ?_
  refine k_sx (x := 0) (by decide) ?_
  refine k_istore_3 (pc := 25) C dX7_stands_25 rfl ?_
  refine k_iinc_2 (pc := 26) (v := 1) C dX7_stands_26 (by decide) rfl ?_
  refine k_goto (pc := 29) C 4 dX7_stands_29 (by decide) ?_
  refine k_iload_n (pc := 4) C dX7_stands_4 rfl ?_
  refine k_iload_n (pc := 5) C dX7_stands_5 rfl ?_
  refine k_icmp_geF (pc := 6) C 32 dX7_stands_6 (by decide) (by decide) ?_
  refine k_iload_n (pc := 9) C dX7_stands_9 rfl ?_
  refine k_aload_n (pc := 10) C dX7_stands_10 rfl ?_
  refine k_getR (pc := 11) (r := some (8, 24, 0)) C fl_X7_75 k_in7 rfl rfl rfl dX7_stands_11 ?_
  refine k_iload_n (pc := 14) C dX7_stands_14 rfl ?_
  refine k_ialdX (pc := 15) (j := 1) C (by decide) (by decide +kernel) rfl (k_vd (by decide)) dX7_stands_15 ?_
  refine k_sx (x := 105) ((hw 1 (by decide)).trans rfl) ?_
  refine k_if_neT (pc := 16) C 23 dX7_stands_16 (by decide) (by decide) ?_
  refine k_iconst (pc := 23) (v := 0) C dX7_stands_23 (by decide) ?_
  refine k_iadd (pc := 24) C dX7_stands_24 ?_
  refine k_sx (x := 0) (by decide) ?_
  refine k_istore_3 (pc := 25) C dX7_stands_25 rfl ?_
  refine k_iinc_2 (pc := 26) (v := 2) C dX7_stands_26 (by decide) rfl ?_
  refine k_goto (pc := 29) C 4 dX7_stands_29 (by decide) ?_
  refine k_iload_n (pc := 4) C dX7_stands_4 rfl ?_
  refine k_iload_n (pc := 5) C dX7_stands_5 rfl ?_
  refine k_icmp_geF (pc := 6) C 32 dX7_stands_6 (by decide) (by decide) ?_
  refine k_iload_n (pc := 9) C dX7_stands_9 rfl ?_
  refine k_aload_n (pc := 10) C dX7_stands_10 rfl ?_
  refine k_getR (pc := 11) (r := some (8, 24, 0)) C fl_X7_75 k_in7 rfl rfl rfl dX7_stands_11 ?_
  refine k_iload_n (pc := 14) C dX7_stands_14 rfl ?_
  refine k_ialdX (pc := 15) (j := 2) C (by decide) (by decide +kernel) rfl (k_vd (by decide)) dX7_stands_15 ?_
  refine k_sx (x := 116) ((hw 2 (by decide)).trans rfl) ?_
  refine k_if_neT (pc := 16) C 23 dX7_stands_16 (by decide) (by decide) ?_
  refine k_iconst (pc := 23) (v := 0) C dX7_stands_23 (by decide) ?_
  refine k_iadd (pc := 24) C dX7_stands_24 ?_
  refine k_sx (x := 0) (by decide) ?_
  refine k_istore_3 (pc := 25) C dX7_stands_25 rfl ?_
  refine k_iinc_2 (pc := 26) (v := 3) C dX7_stands_26 (by decide) rfl ?_
  refine k_goto (pc := 29) C 4 dX7_stands_29 (by decide) ?_
  refine k_iload_n (pc := 4) C dX7_stands_4 rfl ?_
  refine k_iload_n (pc := 5) C dX7_stands_5 rfl ?_
  refine k_icmp_geF (pc := 6) C 32 dX7_stands_6 (by decide) (by decide) ?_
  refine k_iload_n (pc := 9) C dX7_stands_9 rfl ?_
  refine k_aload_n (pc := 10) C dX7_stands_10 rfl ?_
  refine k_getR (pc := 11) (r := some (8, 24, 0)) C fl_X7_75 k_in7 rfl rfl rfl dX7_stands_11 ?_
  refine k_iload_n (pc := 14) C dX7_stands_14 rfl ?_
  refine k_ialdX (pc := 15) (j := 3) C (by decide) (by decide +kernel) rfl (k_vd (by decide)) dX7_stands_15 ?_
  refine k_sx (x := 105) ((hw 3 (by decide)).trans rfl) ?_
  refine k_if_neT (pc := 16) C 23 dX7_stands_16 (by decide) (by decide) ?_
  refine k_iconst (pc := 23) (v := 0) C dX7_stands_23 (by decide) ?_
  refine k_iadd (pc := 24) C dX7_stands_24 ?_
  refine k_sx (x := 0) (by decide) ?_
  refine k_istore_3 (pc := 25) C dX7_stands_25 rfl ?_
  refine k_iinc_2 (pc := 26) (v := 4) C dX7_stands_26 (by decide) rfl ?_
  refine k_goto (pc := 29) C 4 dX7_stands_29 (by decide) ?_
  refine k_iload_n (pc := 4) C dX7_stands_4 rfl ?_
  refine k_iload_n (pc := 5) C dX7_stands_5 rfl ?_
  refine k_icmp_geF (pc := 6) C 32 dX7_stands_6 (by decide) (by decide) ?_
  refine k_iload_n (pc := 9) C dX7_stands_9 rfl ?_
  refine k_aload_n (pc := 10) C dX7_stands_10 rfl ?_
  refine k_getR (pc := 11) (r := some (8, 24, 0)) C fl_X7_75 k_in7 rfl rfl rfl dX7_stands_11 ?_
  refine k_iload_n (pc := 14) C dX7_stands_14 rfl ?_
  refine k_ialdX (pc := 15) (j := 4) C (by decide) (by decide +kernel) rfl (k_vd (by decide)) dX7_stands_15 ?_
  refine k_sx (x := 122) ((hw 4 (by decide)).trans rfl) ?_
  refine k_if_neT (pc := 16) C 23 dX7_stands_16 (by decide) (by decide) ?_
  refine k_iconst (pc := 23) (v := 0) C dX7_stands_23 (by decide) ?_
  refine k_iadd (pc := 24) C dX7_stands_24 ?_
  refine k_sx (x := 0) (by decide) ?_
  refine k_istore_3 (pc := 25) C dX7_stands_25 rfl ?_
  refine k_iinc_2 (pc := 26) (v := 5) C dX7_stands_26 (by decide) rfl ?_
  refine k_goto (pc := 29) C 4 dX7_stands_29 (by decide) ?_
  refine k_iload_n (pc := 4) C dX7_stands_4 rfl ?_
  refine k_iload_n (pc := 5) C dX7_stands_5 rfl ?_
  refine k_icmp_geF (pc := 6) C 32 dX7_stands_6 (by decide) (by decide) ?_
  refine k_iload_n (pc := 9) C dX7_stands_9 rfl ?_
  refine k_aload_n (pc := 10) C dX7_stands_10 rfl ?_
  refine k_getR (pc := 11) (r := some (8, 24, 0)) C fl_X7_75 k_in7 rfl rfl rfl dX7_stands_11 ?_
  refine k_iload_n (pc := 14) C dX7_stands_14 rfl ?_
  refine k_ialdX (pc := 15) (j := 5) C (by decide) (by decide +kernel) rfl (k_vd (by decide)) dX7_stands_15 ?_
  refine k_sx (x := 101) ((hw 5 (by decide)).trans rfl) ?_
  refine k_if_neT (pc := 16) C 23 dX7_stands_16 (by decide) (by decide) ?_
  refine k_iconst (pc := 23) (v := 0) C dX7_stands_23 (by decide) ?_
  refine k_iadd (pc := 24) C dX7_stands_24 ?_
  refine k_sx (x := 0) (by decide) ?_
  refine k_istore_3 (pc := 25) C dX7_stands_25 rfl ?_
  refine k_iinc_2 (pc := 26) (v := 6) C dX7_stands_26 (by decide) rfl ?_
  refine k_goto (pc := 29) C 4 dX7_stands_29 (by decide) ?_
  refine k_iload_n (pc := 4) C dX7_stands_4 rfl ?_
  refine k_iload_n (pc := 5) C dX7_stands_5 rfl ?_
  refine k_icmp_geF (pc := 6) C 32 dX7_stands_6 (by decide) (by decide) ?_
  refine k_iload_n (pc := 9) C dX7_stands_9 rfl ?_
  refine k_aload_n (pc := 10) C dX7_stands_10 rfl ?_
  refine k_getR (pc := 11) (r := some (8, 24, 0)) C fl_X7_75 k_in7 rfl rfl rfl dX7_stands_11 ?_
  refine k_iload_n (pc := 14) C dX7_stands_14 rfl ?_
  refine k_ialdX (pc := 15) (j := 6) C (by decide) (by decide +kernel) rfl (k_vd (by decide)) dX7_stands_15 ?_
  refine k_sx (x := 110) ((hw 6 (by decide)).trans rfl) ?_
  refine k_if_neT (pc := 16) C 23 dX7_stands_16 (by decide) (by decide) ?_
  refine k_iconst (pc := 23) (v := 0) C dX7_stands_23 (by decide) ?_
  refine k_iadd (pc := 24) C dX7_stands_24 ?_
  refine k_sx (x := 0) (by decide) ?_
  refine k_istore_3 (pc := 25) C dX7_stands_25 rfl ?_
  refine k_iinc_2 (pc := 26) (v := 7) C dX7_stands_26 (by decide) rfl ?_
  refine k_goto (pc := 29) C 4 dX7_stands_29 (by decide) ?_
  refine k_iload_n (pc := 4) C dX7_stands_4 rfl ?_
  refine k_iload_n (pc := 5) C dX7_stands_5 rfl ?_
  refine k_icmp_geF (pc := 6) C 32 dX7_stands_6 (by decide) (by decide) ?_
  refine k_iload_n (pc := 9) C dX7_stands_9 rfl ?_
  refine k_aload_n (pc := 10) C dX7_stands_10 rfl ?_
  refine k_getR (pc := 11) (r := some (8, 24, 0)) C fl_X7_75 k_in7 rfl rfl rfl dX7_stands_11 ?_
  refine k_iload_n (pc := 14) C dX7_stands_14 rfl ?_
  refine k_ialdX (pc := 15) (j := 7) C (by decide) (by decide +kernel) rfl (k_vd (by decide)) dX7_stands_15 ?_
  refine k_sx (x := 32) ((hw 7 (by decide)).trans rfl) ?_
  refine k_if_neT (pc := 16) C 23 dX7_stands_16 (by decide) (by decide) ?_
  refine k_iconst (pc := 23) (v := 0) C dX7_stands_23 (by decide) ?_
  refine k_iadd (pc := 24) C dX7_stands_24 ?_
  refine k_sx (x := 0) (by decide) ?_
  refine k_istore_3 (pc := 25) C dX7_stands_25 rfl ?_
  refine k_iinc_2 (pc := 26) (v := 8) C dX7_stands_26 (by decide) rfl ?_
  refine k_goto (pc := 29) C 4 dX7_stands_29 (by decide) ?_
  refine k_iload_n (pc := 4) C dX7_stands_4 rfl ?_
  refine k_iload_n (pc := 5) C dX7_stands_5 rfl ?_
  refine k_icmp_geF (pc := 6) C 32 dX7_stands_6 (by decide) (by decide) ?_
  refine k_iload_n (pc := 9) C dX7_stands_9 rfl ?_
  refine k_aload_n (pc := 10) C dX7_stands_10 rfl ?_
  refine k_getR (pc := 11) (r := some (8, 24, 0)) C fl_X7_75 k_in7 rfl rfl rfl dX7_stands_11 ?_
  refine k_iload_n (pc := 14) C dX7_stands_14 rfl ?_
  refine k_ialdX (pc := 15) (j := 8) C (by decide) (by decide +kernel) rfl (k_vd (by decide)) dX7_stands_15 ?_
  refine k_sx (x := 0) ((hw 8 (by decide)).trans rfl) ?_
  refine k_if_neF (pc := 16) C 23 dX7_stands_16 (by decide) (by decide) ?_
  refine k_iconst (pc := 19) (v := 1) C dX7_stands_19 (by decide) ?_
  refine k_goto (pc := 20) C 24 dX7_stands_20 (by decide) ?_
  refine k_iadd (pc := 24) C dX7_stands_24 ?_
  refine k_sx (x := 1) (by decide) ?_
  refine k_istore_3 (pc := 25) C dX7_stands_25 rfl ?_
  refine k_iinc_2 (pc := 26) (v := 9) C dX7_stands_26 (by decide) rfl ?_
  refine k_goto (pc := 29) C 4 dX7_stands_29 (by decide) ?_
  refine k_iload_n (pc := 4) C dX7_stands_4 rfl ?_
  refine k_iload_n (pc := 5) C dX7_stands_5 rfl ?_
  refine k_icmp_geT (pc := 6) C 32 dX7_stands_6 (by decide) (by decide) ?_
  refine k_aload_n (pc := 32) C dX7_stands_32 rfl ?_
  refine k_getI (pc := 33) C fl_X7_170 k_in7 rfl rfl dX7_stands_33 ?_
  refine k_istore_3 (pc := 36) C dX7_stands_36 rfl ?_
  refine k_cast (L' := [vR (7, 0, 0), vI 1, vI (nI (9 + 0)), vI ((mi (7, 0, 0) 29) + (nI 0))]) (by rw [← k_q0] <;> rfl) rfl rfl ?_
  have hloop : ∀ (u j : Nat), j + u = 6 → f_X7_wm mi ml 9 u j = f_X7_wm mi ml 9 6 0 → k_V p l e (k_rm 0) s m args below meth c D cy ad bs k_KS k_R0 0 0 (k_End below D cy ad bs k_KS k_R0 (k_rt (some (vI (f_X7_stands1 mi ml))) mi ml) args s) mi ml 37 [vR (7, 0, 0), vI 1, vI (nI (9 + j)), vI ((mi (7, 0, 0) 29) + (nI j))] [] := by
    intro u
    induction u with
    | zero =>
      intro j hju hres
      have hjn : j = 6 := (by omega)
      subst hjn
      have hM : f_X7_wm mi ml 9 6 0 = 6 := hres.symm
      refine k_cast (L' := [vR (7, 0, 0), vI 1, vI 15, vI ((mi (7, 0, 0) 29) + (nI 6))]) (by rfl) rfl rfl ?_
      refine k_aload_n (pc := 37) C dX7_stands_37 rfl ?_
      refine k_getR (pc := 38) (r := some (8, 24, 0)) C fl_X7_75 k_in7 rfl rfl rfl dX7_stands_38 ?_
      refine k_iload_n (pc := 41) C dX7_stands_41 rfl ?_
      refine k_ialdX (pc := 42) (j := 15) C (by decide) (by decide +kernel) rfl (k_vd (by decide)) dX7_stands_42 ?_
      refine k_sx (x := 32) ((hw 15 (by decide)).trans rfl) ?_
      refine k_bipush (pc := 43) (v := 32) C dX7_stands_43 (by decide) ?_
      refine k_icmp_leT (pc := 45) C 86 dX7_stands_45 (by decide) (by decide) ?_
      refine k_aload_n (pc := 86) C dX7_stands_86 rfl ?_
      refine k_getR (pc := 87) (r := some (8, 24, 0)) C fl_X7_75 k_in7 rfl rfl rfl dX7_stands_87 ?_
      refine k_iload_n (pc := 90) C dX7_stands_90 rfl ?_
      refine k_ialdX (pc := 91) (j := 15) C (by decide) (by decide +kernel) rfl (k_vd (by decide)) dX7_stands_91 ?_
      refine k_sx (x := 32) ((hw 15 (by decide)).trans rfl) ?_
      refine k_bipush (pc := 92) (v := 32) C dX7_stands_92 (by decide) ?_
      refine k_icmp_gtF (pc := 94) C 101 dX7_stands_94 (by decide) (by decide) ?_
      refine k_iconst (pc := 97) (v := 1) C dX7_stands_97 (by decide) ?_
      refine k_goto (pc := 98) C 102 dX7_stands_98 (by decide) ?_
      exact k_zret (pc := 102) C rfl (Or.inr rfl) (k_fI (by unfold f_X7_stands1; rw [if_pos hM]; try rfl)) dX7_stands_102
    | succ u ih =>
      intro j hju hres
      have hj : j < 6 := by omega
      have hkn : ¬ (k_wd (9 + j)) ≤ 32 := (by decide : ∀ j, j < 6 → ¬ (k_wd (9 + j)) ≤ 32) j hj
      refine k_aload_n (pc := 37) C dX7_stands_37 rfl ?_
      refine k_getR (pc := 38) (r := some (8, 24, 0)) C fl_X7_75 k_in7 rfl rfl rfl dX7_stands_38 ?_
      refine k_iload_n (pc := 41) C dX7_stands_41 rfl ?_
      refine k_ialdX (pc := 42) (j := (9 + j)) C (nI_clamp (by omega)) (by decide +kernel) rfl (vp_in_nI (show _ < (43 : Nat) by omega) (show (43 : Nat) < 2 ^ 31 by decide)) dX7_stands_42 ?_
      refine k_sx (x := k_wd (9 + j)) (hw (9 + j) (by omega)) ?_
      refine k_bipush (pc := 43) (v := 32) C dX7_stands_43 (by decide) ?_
      refine k_icmp_leF (pc := 45) C 86 dX7_stands_45 (by decide) hkn ?_
      refine k_iload_n (pc := 48) C dX7_stands_48 rfl ?_
      refine k_aload_n (pc := 49) C dX7_stands_49 rfl ?_
      refine k_getI (pc := 50) C fl_X7_173 k_in7 rfl rfl dX7_stands_50 ?_
      refine k_icmp_ge (pc := 53) C 86 dX7_stands_53 (by decide) (fun c53 => ?_) (fun c53 => ?_)
      · skip
        have hM : ¬ f_X7_wm mi ml 9 6 0 = 6 := by rw [← hres, f_X7_wm_s, if_pos c53]; omega
        have hkn2 := Int32.not_le.mp hkn
        refine k_aload_n (pc := 86) C dX7_stands_86 rfl ?_
        refine k_getR (pc := 87) (r := some (8, 24, 0)) C fl_X7_75 k_in7 rfl rfl rfl dX7_stands_87 ?_
        refine k_iload_n (pc := 90) C dX7_stands_90 rfl ?_
        refine k_ialdX (pc := 91) (j := (9 + j)) C (nI_clamp (by omega)) (by decide +kernel) rfl (vp_in_nI (show _ < (43 : Nat) by omega) (show (43 : Nat) < 2 ^ 31 by decide)) dX7_stands_91 ?_
        refine k_sx (x := k_wd (9 + j)) (hw (9 + j) (by omega)) ?_
        refine k_bipush (pc := 92) (v := 32) C dX7_stands_92 (by decide) ?_
        refine k_icmp_gtT (pc := 94) C 101 dX7_stands_94 (by decide) hkn2 ?_
        refine k_iconst (pc := 101) (v := 0) C dX7_stands_101 (by decide) ?_
        exact k_zret (pc := 102) C rfl (Or.inl rfl) (k_fI (by unfold f_X7_stands1; rw [if_neg hM]; try rfl)) dX7_stands_102
      · skip
        refine k_aload_n (pc := 56) C dX7_stands_56 rfl ?_
        refine k_getR (pc := 57) (r := some (9, 1, 0)) C fl_X7_68 k_in7 rfl rfl rfl dX7_stands_57 ?_
        refine k_aload_n (pc := 60) C dX7_stands_60 rfl ?_
        refine k_getI (pc := 61) C fl_X7_176 k_in7 rfl rfl dX7_stands_61 ?_
        refine k_iload_n (pc := 64) C dX7_stands_64 rfl ?_
        refine k_iadd (pc := 65) C dX7_stands_65 ?_
        refine k_laldX (pc := 66) (j := ((mi (7, 0, 0) 28) + ((mi (7, 0, 0) 29) + (nI j))).toNatClampNeg) C rfl (by decide +kernel) rfl (k_cin2 hrd (show j < 1000 by omega) c53) dX7_stands_66 ?_
        refine k_l2i (pc := 67) C dX7_stands_67 ?_
        refine k_aload_n (pc := 68) C dX7_stands_68 rfl ?_
        refine k_getR (pc := 69) (r := some (8, 24, 0)) C fl_X7_75 k_in7 rfl rfl rfl dX7_stands_69 ?_
        refine k_iload_n (pc := 72) C dX7_stands_72 rfl ?_
        refine k_ialdX (pc := 73) (j := (9 + j)) C (nI_clamp (by omega)) (by decide +kernel) rfl (vp_in_nI (show _ < (43 : Nat) by omega) (show (43 : Nat) < 2 ^ 31 by decide)) dX7_stands_73 ?_
        refine k_sx (x := k_wd (9 + j)) (hw (9 + j) (by omega)) ?_
        refine k_icmp_ne (pc := 74) C 86 dX7_stands_74 (by decide) (fun c74 => ?_) (fun c74 => ?_)
        · skip
          have hM : ¬ f_X7_wm mi ml 9 6 0 = 6 := by rw [← hres, f_X7_wm_s, if_neg c53, if_neg c74]; omega
          have hkn2 := Int32.not_le.mp hkn
          refine k_aload_n (pc := 86) C dX7_stands_86 rfl ?_
          refine k_getR (pc := 87) (r := some (8, 24, 0)) C fl_X7_75 k_in7 rfl rfl rfl dX7_stands_87 ?_
          refine k_iload_n (pc := 90) C dX7_stands_90 rfl ?_
          refine k_ialdX (pc := 91) (j := (9 + j)) C (nI_clamp (by omega)) (by decide +kernel) rfl (vp_in_nI (show _ < (43 : Nat) by omega) (show (43 : Nat) < 2 ^ 31 by decide)) dX7_stands_91 ?_
          refine k_sx (x := k_wd (9 + j)) (hw (9 + j) (by omega)) ?_
          refine k_bipush (pc := 92) (v := 32) C dX7_stands_92 (by decide) ?_
          refine k_icmp_gtT (pc := 94) C 101 dX7_stands_94 (by decide) hkn2 ?_
          refine k_iconst (pc := 101) (v := 0) C dX7_stands_101 (by decide) ?_
          exact k_zret (pc := 102) C rfl (Or.inl rfl) (k_fI (by unfold f_X7_stands1; rw [if_neg hM]; try rfl)) dX7_stands_102
        · skip
          refine k_iinc_3 (pc := 77) (v := ((mi (7, 0, 0) 29) + (nI j)) + 1) C dX7_stands_77 rfl rfl ?_
          refine k_iinc_2 (pc := 80) (v := nI ((9 + j) + 1)) C dX7_stands_80 (k_inc (9 + j)) rfl ?_
          refine k_goto (pc := 83) C 37 dX7_stands_83 (by decide) ?_
          exact k_cast (L' := [vR (7, 0, 0), vI 1, vI (nI (9 + (j + 1))), vI ((mi (7, 0, 0) 29) + (nI (j + 1)))]) (by rw [k_q1]; rfl) rfl rfl (ih (j + 1) (by omega) (by rw [← hres, f_X7_wm_s, if_neg c53, if_pos c74]))
  exact hloop 6 0 rfl rfl
def f_X7_word (mi : MemI) (ml : MemL) : Int32 × MemI :=
  if (f_X7_wm mi ml 0 8 0) = 8 then (0, k_ui mi (7, 0, 0) 29 ((mi (7, 0, 0) 29) + (nI 8)))
  else if (f_X7_wm mi ml 9 7 0) = 7 then (1, k_ui mi (7, 0, 0) 29 ((mi (7, 0, 0) 29) + (nI 7)))
    else if (f_X7_wm mi ml 17 5 0) = 5 then (2, k_ui mi (7, 0, 0) 29 ((mi (7, 0, 0) 29) + (nI 5)))
      else if (f_X7_wm mi ml 23 6 0) = 6 then (3, k_ui mi (7, 0, 0) 29 ((mi (7, 0, 0) 29) + (nI 6)))
        else if (f_X7_wm mi ml 30 6 0) = 6 then (4, k_ui mi (7, 0, 0) 29 ((mi (7, 0, 0) 29) + (nI 6)))
          else if (f_X7_wm mi ml 37 5 0) = 5 then (5, k_ui mi (7, 0, 0) 29 ((mi (7, 0, 0) 29) + (nI 5)))
            else ((-1), k_ui mi (7, 0, 0) 32 (k_mx (k_mx (k_mx (k_mx (k_mx (k_mx (mi (7, 0, 0) 29) ((mi (7, 0, 0) 29) + (nI (f_X7_wm mi ml 0 8 0)))) ((mi (7, 0, 0) 29) + (nI (f_X7_wm mi ml 9 7 0)))) ((mi (7, 0, 0) 29) + (nI (f_X7_wm mi ml 17 5 0)))) ((mi (7, 0, 0) 29) + (nI (f_X7_wm mi ml 23 6 0)))) ((mi (7, 0, 0) 29) + (nI (f_X7_wm mi ml 30 6 0)))) ((mi (7, 0, 0) 29) + (nI (f_X7_wm mi ml 37 5 0)))))
set_option maxRecDepth 100000 in
set_option maxHeartbeats 4000000 in
theorem ct_X7_word {mi : MemI} {ml : MemL}  (hrd : k_rd mi) (hw : k_wok mi) : k_Ct k_KS k_R0 Mt_X7_word 0 [vR (7, 0, 0)] mi ml (k_rt (some (vI (f_X7_word mi ml).1)) (f_X7_word mi ml).2 ml) := by
  refine k_ofV (L0 := [vR (7, 0, 0), vU, vU, vU, vU, vU]) (by decide +kernel) (Nat.le_of_ble_eq_true rfl) rfl rfl ?_
  intro p l e s m args below meth c D cy ad bs C
  refine k_iconst (pc := 0) (v := 0) C dX7_word_0 (by decide) ?_
  refine k_istore_1 (pc := 1) C dX7_word_1 rfl ?_
  refine k_aload_n (pc := 2) C dX7_word_2 rfl ?_
  refine k_getI (pc := 3) C fl_X7_170 k_in7 rfl rfl dX7_word_3 ?_
  refine k_istore_2 (pc := 6) C dX7_word_6 rfl ?_
  refine k_iconst (pc := 7) (v := 0) C dX7_word_7 (by decide) ?_
  refine k_istore_3 (pc := 8) C dX7_word_8 rfl ?_
  refine k_iload_n (pc := 9) C dX7_word_9 rfl ?_
  refine k_bipush (pc := 10) (v := 6) C dX7_word_10 (by decide) ?_
  refine k_icmp_geF (pc := 12) C 130 dX7_word_12 (by decide) (by decide) ?_
  refine k_aload_n (pc := 15) C dX7_word_15 rfl ?_
  refine k_getI (pc := 16) C fl_X7_170 k_in7 rfl rfl dX7_word_16 ?_
  refine k_istore_4 (pc := 19) C dX7_word_19 rfl ?_
  refine k_iload_n (pc := 21) C dX7_word_21 rfl ?_
  refine k_istore_5 (pc := 22) C dX7_word_22 rfl ?_
  refine k_cast (L' := [vR (7, 0, 0), vI 0, vI (mi (7, 0, 0) 29), vI 0, vI ((mi (7, 0, 0) 29) + (nI 0)), vI (nI (0 + 0))]) (by rw [← k_q0] <;> rfl) rfl rfl ?_
  by_cases hM0 : (f_X7_wm mi ml 0 8 0) = 8
  · skip
    have hloop : ∀ (u j : Nat), j + u = 8 → f_X7_wm mi ml 0 u j = f_X7_wm mi ml 0 8 0 → k_V p l e (k_rm 0) s m args below meth c D cy ad bs k_KS k_R0 0 0 (k_End below D cy ad bs k_KS k_R0 (k_rt (some (vI (f_X7_word mi ml).1)) (f_X7_word mi ml).2 ml) args s) mi ml 24 [vR (7, 0, 0), vI 0, vI (mi (7, 0, 0) 29), vI 0, vI ((mi (7, 0, 0) 29) + (nI j)), vI (nI (0 + j))] [] := by
      intro u
      induction u with
      | zero =>
        intro j hju hres
        have hjn : j = 8 := (by omega)
        subst hjn
        refine k_cast (L' := [vR (7, 0, 0), vI 0, vI (mi (7, 0, 0) 29), vI 0, vI ((mi (7, 0, 0) 29) + (nI 8)), vI 8]) (by rfl) rfl rfl ?_
        refine k_aload_n (pc := 24) C dX7_word_24 rfl ?_
        refine k_getR (pc := 25) (r := some (8, 24, 0)) C fl_X7_75 k_in7 rfl rfl rfl dX7_word_25 ?_
        refine k_iload (pc := 28) C dX7_word_28 rfl ?_
        refine k_ialdX (pc := 30) (j := 8) C (by decide) (by decide +kernel) rfl (k_vd (by decide)) dX7_word_30 ?_
        refine k_sx (x := 0) ((hw 8 (by decide)).trans rfl) ?_
        refine k_if_eqT (pc := 31) C 75 dX7_word_31 (by decide) (by decide) ?_
        refine k_aload_n (pc := 75) C dX7_word_75 rfl ?_
        refine k_getR (pc := 76) (r := some (8, 24, 0)) C fl_X7_75 k_in7 rfl rfl rfl dX7_word_76 ?_
        refine k_iload (pc := 79) C dX7_word_79 rfl ?_
        refine k_ialdX (pc := 81) (j := 8) C (by decide) (by decide +kernel) rfl (k_vd (by decide)) dX7_word_81 ?_
        refine k_sx (x := 0) ((hw 8 (by decide)).trans rfl) ?_
        refine k_if_neF (pc := 82) C 93 dX7_word_82 (by decide) (by decide) ?_
        refine k_aload_n (pc := 85) C dX7_word_85 rfl ?_
        refine k_iload (pc := 86) C dX7_word_86 rfl ?_
        refine k_putI (pc := 88) C pl_X7_170 k_in7 rfl rfl dX7_word_88 ?_
        refine k_iload_n (pc := 91) C dX7_word_91 rfl ?_
        exact k_iret (pc := 92) C rfl  (k_fIm (by unfold f_X7_word; rw [if_pos hM0]; try rfl)) dX7_word_92
      | succ u ih =>
        intro j hju hres
        have hj : j < 8 := by omega
        have hkn : ¬ (k_wd (0 + j)) = 0 := (by decide : ∀ j, j < 8 → ¬ (k_wd (0 + j)) = 0) j hj
        refine k_aload_n (pc := 24) C dX7_word_24 rfl ?_
        refine k_getR (pc := 25) (r := some (8, 24, 0)) C fl_X7_75 k_in7 rfl rfl rfl dX7_word_25 ?_
        refine k_iload (pc := 28) C dX7_word_28 rfl ?_
        refine k_ialdX (pc := 30) (j := (0 + j)) C (nI_clamp (by omega)) (by decide +kernel) rfl (vp_in_nI (show _ < (43 : Nat) by omega) (show (43 : Nat) < 2 ^ 31 by decide)) dX7_word_30 ?_
        refine k_sx (x := k_wd (0 + j)) (hw (0 + j) (by omega)) ?_
        refine k_if_eqF (pc := 31) C 75 dX7_word_31 (by decide) hkn ?_
        refine k_iload (pc := 34) C dX7_word_34 rfl ?_
        refine k_aload_n (pc := 36) C dX7_word_36 rfl ?_
        refine k_getI (pc := 37) C fl_X7_173 k_in7 rfl rfl dX7_word_37 ?_
        refine k_icmp_ge (pc := 40) C 75 dX7_word_40 (by decide) (fun c40 => ?_) (fun c40 => ?_)
        · skip
          refine k_aload_n (pc := 75) C dX7_word_75 rfl ?_
          refine k_getR (pc := 76) (r := some (8, 24, 0)) C fl_X7_75 k_in7 rfl rfl rfl dX7_word_76 ?_
          refine k_iload (pc := 79) C dX7_word_79 rfl ?_
          refine k_ialdX (pc := 81) (j := (0 + j)) C (nI_clamp (by omega)) (by decide +kernel) rfl (vp_in_nI (show _ < (43 : Nat) by omega) (show (43 : Nat) < 2 ^ 31 by decide)) dX7_word_81 ?_
          refine k_sx (x := k_wd (0 + j)) (hw (0 + j) (by omega)) ?_
          refine k_if_neT (pc := 82) C 93 dX7_word_82 (by decide) hkn ?_
          have hrj : f_X7_wm mi ml 0 8 0 = j := by rw [← hres, f_X7_wm_s, if_pos c40]
          exact absurd (hrj.symm.trans hM0) (by omega)
        · skip
          refine k_aload_n (pc := 43) C dX7_word_43 rfl ?_
          refine k_getR (pc := 44) (r := some (9, 1, 0)) C fl_X7_68 k_in7 rfl rfl rfl dX7_word_44 ?_
          refine k_aload_n (pc := 47) C dX7_word_47 rfl ?_
          refine k_getI (pc := 48) C fl_X7_176 k_in7 rfl rfl dX7_word_48 ?_
          refine k_iload (pc := 51) C dX7_word_51 rfl ?_
          refine k_iadd (pc := 53) C dX7_word_53 ?_
          refine k_laldX (pc := 54) (j := ((mi (7, 0, 0) 28) + ((mi (7, 0, 0) 29) + (nI j))).toNatClampNeg) C rfl (by decide +kernel) rfl (k_cin2 hrd (show j < 1000 by omega) c40) dX7_word_54 ?_
          refine k_l2i (pc := 55) C dX7_word_55 ?_
          refine k_aload_n (pc := 56) C dX7_word_56 rfl ?_
          refine k_getR (pc := 57) (r := some (8, 24, 0)) C fl_X7_75 k_in7 rfl rfl rfl dX7_word_57 ?_
          refine k_iload (pc := 60) C dX7_word_60 rfl ?_
          refine k_ialdX (pc := 62) (j := (0 + j)) C (nI_clamp (by omega)) (by decide +kernel) rfl (vp_in_nI (show _ < (43 : Nat) by omega) (show (43 : Nat) < 2 ^ 31 by decide)) dX7_word_62 ?_
          refine k_sx (x := k_wd (0 + j)) (hw (0 + j) (by omega)) ?_
          refine k_icmp_ne (pc := 63) C 75 dX7_word_63 (by decide) (fun c63 => ?_) (fun c63 => ?_)
          · skip
            refine k_aload_n (pc := 75) C dX7_word_75 rfl ?_
            refine k_getR (pc := 76) (r := some (8, 24, 0)) C fl_X7_75 k_in7 rfl rfl rfl dX7_word_76 ?_
            refine k_iload (pc := 79) C dX7_word_79 rfl ?_
            refine k_ialdX (pc := 81) (j := (0 + j)) C (nI_clamp (by omega)) (by decide +kernel) rfl (vp_in_nI (show _ < (43 : Nat) by omega) (show (43 : Nat) < 2 ^ 31 by decide)) dX7_word_81 ?_
            refine k_sx (x := k_wd (0 + j)) (hw (0 + j) (by omega)) ?_
            refine k_if_neT (pc := 82) C 93 dX7_word_82 (by decide) hkn ?_
            have hrj : f_X7_wm mi ml 0 8 0 = j := by rw [← hres, f_X7_wm_s, if_neg c40, if_neg c63]
            exact absurd (hrj.symm.trans hM0) (by omega)
          · skip
            refine k_iinc_4 (pc := 66) (v := ((mi (7, 0, 0) 29) + (nI j)) + 1) C dX7_word_66 rfl rfl ?_
            refine k_iinc_5 (pc := 69) (v := nI ((0 + j) + 1)) C dX7_word_69 (k_inc (0 + j)) rfl ?_
            refine k_goto (pc := 72) C 24 dX7_word_72 (by decide) ?_
            exact k_cast (L' := [vR (7, 0, 0), vI 0, vI (mi (7, 0, 0) 29), vI 0, vI ((mi (7, 0, 0) 29) + (nI (j + 1))), vI (nI (0 + (j + 1)))]) (by rw [k_q1]; rfl) rfl rfl (ih (j + 1) (by omega) (by rw [← hres, f_X7_wm_s, if_neg c40, if_pos c63]))
    exact hloop 8 0 rfl rfl
  · skip
    have hmiss0 : k_V p l e (k_rm 0) s m args below meth c D cy ad bs k_KS k_R0 0 0 (k_End below D cy ad bs k_KS k_R0 (k_rt (some (vI (f_X7_word mi ml).1)) (f_X7_word mi ml).2 ml) args s) mi ml 93 [vR (7, 0, 0), vI 0, vI (mi (7, 0, 0) 29), vI 0, vI ((mi (7, 0, 0) 29) + (nI (f_X7_wm mi ml 0 8 0))), vU] [] := by
      have hmx : k_V p l e (k_rm 0) s m args below meth c D cy ad bs k_KS k_R0 0 0 (k_End below D cy ad bs k_KS k_R0 (k_rt (some (vI (f_X7_word mi ml).1)) (f_X7_word mi ml).2 ml) args s) mi ml 105 [vR (7, 0, 0), vI 0, vI (mi (7, 0, 0) 29), vI 0, vU, vU] [vI (k_mx (mi (7, 0, 0) 29) ((mi (7, 0, 0) 29) + (nI (f_X7_wm mi ml 0 8 0))))] := by
        refine k_istore_2 (pc := 105) C dX7_word_105 rfl ?_
        refine k_aload_n (pc := 106) C dX7_word_106 rfl ?_
        refine k_getR (pc := 107) (r := some (8, 24, 0)) C fl_X7_75 k_in7 rfl rfl rfl dX7_word_107 ?_
        refine k_iload_n (pc := 110) C dX7_word_110 rfl ?_
        refine k_ialdX (pc := 111) (j := 0) C (by decide) (by decide +kernel) rfl (k_vd (by decide)) dX7_word_111 ?_
        refine k_sx (x := 99) ((hw 0 (by decide)).trans rfl) ?_
        refine k_if_eqF (pc := 112) C 121 dX7_word_112 (by decide) (by decide) ?_
        refine k_iinc_1 (pc := 115) (v := 1) C dX7_word_115 (by decide) rfl ?_
        refine k_goto (pc := 118) C 106 dX7_word_118 (by decide) ?_
        refine k_aload_n (pc := 106) C dX7_word_106 rfl ?_
        refine k_getR (pc := 107) (r := some (8, 24, 0)) C fl_X7_75 k_in7 rfl rfl rfl dX7_word_107 ?_
        refine k_iload_n (pc := 110) C dX7_word_110 rfl ?_
        refine k_ialdX (pc := 111) (j := 1) C (by decide) (by decide +kernel) rfl (k_vd (by decide)) dX7_word_111 ?_
        refine k_sx (x := 105) ((hw 1 (by decide)).trans rfl) ?_
        refine k_if_eqF (pc := 112) C 121 dX7_word_112 (by decide) (by decide) ?_
        refine k_iinc_1 (pc := 115) (v := 2) C dX7_word_115 (by decide) rfl ?_
        refine k_goto (pc := 118) C 106 dX7_word_118 (by decide) ?_
        refine k_aload_n (pc := 106) C dX7_word_106 rfl ?_
        refine k_getR (pc := 107) (r := some (8, 24, 0)) C fl_X7_75 k_in7 rfl rfl rfl dX7_word_107 ?_
        refine k_iload_n (pc := 110) C dX7_word_110 rfl ?_
        refine k_ialdX (pc := 111) (j := 2) C (by decide) (by decide +kernel) rfl (k_vd (by decide)) dX7_word_111 ?_
        refine k_sx (x := 116) ((hw 2 (by decide)).trans rfl) ?_
        refine k_if_eqF (pc := 112) C 121 dX7_word_112 (by decide) (by decide) ?_
        refine k_iinc_1 (pc := 115) (v := 3) C dX7_word_115 (by decide) rfl ?_
        refine k_goto (pc := 118) C 106 dX7_word_118 (by decide) ?_
        refine k_aload_n (pc := 106) C dX7_word_106 rfl ?_
        refine k_getR (pc := 107) (r := some (8, 24, 0)) C fl_X7_75 k_in7 rfl rfl rfl dX7_word_107 ?_
        refine k_iload_n (pc := 110) C dX7_word_110 rfl ?_
        refine k_ialdX (pc := 111) (j := 3) C (by decide) (by decide +kernel) rfl (k_vd (by decide)) dX7_word_111 ?_
        refine k_sx (x := 105) ((hw 3 (by decide)).trans rfl) ?_
        refine k_if_eqF (pc := 112) C 121 dX7_word_112 (by decide) (by decide) ?_
        refine k_iinc_1 (pc := 115) (v := 4) C dX7_word_115 (by decide) rfl ?_
        refine k_goto (pc := 118) C 106 dX7_word_118 (by decide) ?_
        refine k_aload_n (pc := 106) C dX7_word_106 rfl ?_
        refine k_getR (pc := 107) (r := some (8, 24, 0)) C fl_X7_75 k_in7 rfl rfl rfl dX7_word_107 ?_
        refine k_iload_n (pc := 110) C dX7_word_110 rfl ?_
        refine k_ialdX (pc := 111) (j := 4) C (by decide) (by decide +kernel) rfl (k_vd (by decide)) dX7_word_111 ?_
        refine k_sx (x := 122) ((hw 4 (by decide)).trans rfl) ?_
        refine k_if_eqF (pc := 112) C 121 dX7_word_112 (by decide) (by decide) ?_
        refine k_iinc_1 (pc := 115) (v := 5) C dX7_word_115 (by decide) rfl ?_
        refine k_goto (pc := 118) C 106 dX7_word_118 (by decide) ?_
        refine k_aload_n (pc := 106) C dX7_word_106 rfl ?_
        refine k_getR (pc := 107) (r := some (8, 24, 0)) C fl_X7_75 k_in7 rfl rfl rfl dX7_word_107 ?_
        refine k_iload_n (pc := 110) C dX7_word_110 rfl ?_
        refine k_ialdX (pc := 111) (j := 5) C (by decide) (by decide +kernel) rfl (k_vd (by decide)) dX7_word_111 ?_
        refine k_sx (x := 101) ((hw 5 (by decide)).trans rfl) ?_
        refine k_if_eqF (pc := 112) C 121 dX7_word_112 (by decide) (by decide) ?_
        refine k_iinc_1 (pc := 115) (v := 6) C dX7_word_115 (by decide) rfl ?_
        refine k_goto (pc := 118) C 106 dX7_word_118 (by decide) ?_
        refine k_aload_n (pc := 106) C dX7_word_106 rfl ?_
        refine k_getR (pc := 107) (r := some (8, 24, 0)) C fl_X7_75 k_in7 rfl rfl rfl dX7_word_107 ?_
        refine k_iload_n (pc := 110) C dX7_word_110 rfl ?_
        refine k_ialdX (pc := 111) (j := 6) C (by decide) (by decide +kernel) rfl (k_vd (by decide)) dX7_word_111 ?_
        refine k_sx (x := 110) ((hw 6 (by decide)).trans rfl) ?_
        refine k_if_eqF (pc := 112) C 121 dX7_word_112 (by decide) (by decide) ?_
        refine k_iinc_1 (pc := 115) (v := 7) C dX7_word_115 (by decide) rfl ?_
        refine k_goto (pc := 118) C 106 dX7_word_118 (by decide) ?_
        refine k_aload_n (pc := 106) C dX7_word_106 rfl ?_
        refine k_getR (pc := 107) (r := some (8, 24, 0)) C fl_X7_75 k_in7 rfl rfl rfl dX7_word_107 ?_
        refine k_iload_n (pc := 110) C dX7_word_110 rfl ?_
        refine k_ialdX (pc := 111) (j := 7) C (by decide) (by decide +kernel) rfl (k_vd (by decide)) dX7_word_111 ?_
        refine k_sx (x := 32) ((hw 7 (by decide)).trans rfl) ?_
        refine k_if_eqF (pc := 112) C 121 dX7_word_112 (by decide) (by decide) ?_
        refine k_iinc_1 (pc := 115) (v := 8) C dX7_word_115 (by decide) rfl ?_
        refine k_goto (pc := 118) C 106 dX7_word_118 (by decide) ?_
        refine k_aload_n (pc := 106) C dX7_word_106 rfl ?_
        refine k_getR (pc := 107) (r := some (8, 24, 0)) C fl_X7_75 k_in7 rfl rfl rfl dX7_word_107 ?_
        refine k_iload_n (pc := 110) C dX7_word_110 rfl ?_
        refine k_ialdX (pc := 111) (j := 8) C (by decide) (by decide +kernel) rfl (k_vd (by decide)) dX7_word_111 ?_
        refine k_sx (x := 0) ((hw 8 (by decide)).trans rfl) ?_
        refine k_if_eqT (pc := 112) C 121 dX7_word_112 (by decide) (by decide) ?_
        refine k_iinc_1 (pc := 121) (v := 9) C dX7_word_121 (by decide) rfl ?_
        refine k_iinc_3 (pc := 124) (v := 1) C dX7_word_124 (by decide) rfl ?_
        refine k_goto (pc := 127) C 9 dX7_word_127 (by decide) ?_
        refine k_iload_n (pc := 9) C dX7_word_9 rfl ?_
        refine k_bipush (pc := 10) (v := 6) C dX7_word_10 (by decide) ?_
        refine k_icmp_geF (pc := 12) C 130 dX7_word_12 (by decide) (by decide) ?_
        refine k_aload_n (pc := 15) C dX7_word_15 rfl ?_
        refine k_getI (pc := 16) C fl_X7_170 k_in7 rfl rfl dX7_word_16 ?_
        refine k_istore_4 (pc := 19) C dX7_word_19 rfl ?_
        refine k_iload_n (pc := 21) C dX7_word_21 rfl ?_
        refine k_istore_5 (pc := 22) C dX7_word_22 rfl ?_
        refine k_cast (L' := [vR (7, 0, 0), vI 9, vI (k_mx (mi (7, 0, 0) 29) ((mi (7, 0, 0) 29) + (nI (f_X7_wm mi ml 0 8 0)))), vI 1, vI ((mi (7, 0, 0) 29) + (nI 0)), vI (nI (9 + 0))]) (by rw [← k_q0] <;> rfl) rfl rfl ?_
        by_cases hM1 : (f_X7_wm mi ml 9 7 0) = 7
        · skip
          have hloop : ∀ (u j : Nat), j + u = 7 → f_X7_wm mi ml 9 u j = f_X7_wm mi ml 9 7 0 → k_V p l e (k_rm 0) s m args below meth c D cy ad bs k_KS k_R0 0 0 (k_End below D cy ad bs k_KS k_R0 (k_rt (some (vI (f_X7_word mi ml).1)) (f_X7_word mi ml).2 ml) args s) mi ml 24 [vR (7, 0, 0), vI 9, vI (k_mx (mi (7, 0, 0) 29) ((mi (7, 0, 0) 29) + (nI (f_X7_wm mi ml 0 8 0)))), vI 1, vI ((mi (7, 0, 0) 29) + (nI j)), vI (nI (9 + j))] [] := by
            intro u
            induction u with
            | zero =>
              intro j hju hres
              have hjn : j = 7 := (by omega)
              subst hjn
              refine k_cast (L' := [vR (7, 0, 0), vI 9, vI (k_mx (mi (7, 0, 0) 29) ((mi (7, 0, 0) 29) + (nI (f_X7_wm mi ml 0 8 0)))), vI 1, vI ((mi (7, 0, 0) 29) + (nI 7)), vI 16]) (by rfl) rfl rfl ?_
              refine k_aload_n (pc := 24) C dX7_word_24 rfl ?_
              refine k_getR (pc := 25) (r := some (8, 24, 0)) C fl_X7_75 k_in7 rfl rfl rfl dX7_word_25 ?_
              refine k_iload (pc := 28) C dX7_word_28 rfl ?_
              refine k_ialdX (pc := 30) (j := 16) C (by decide) (by decide +kernel) rfl (k_vd (by decide)) dX7_word_30 ?_
              refine k_sx (x := 0) ((hw 16 (by decide)).trans rfl) ?_
              refine k_if_eqT (pc := 31) C 75 dX7_word_31 (by decide) (by decide) ?_
              refine k_aload_n (pc := 75) C dX7_word_75 rfl ?_
              refine k_getR (pc := 76) (r := some (8, 24, 0)) C fl_X7_75 k_in7 rfl rfl rfl dX7_word_76 ?_
              refine k_iload (pc := 79) C dX7_word_79 rfl ?_
              refine k_ialdX (pc := 81) (j := 16) C (by decide) (by decide +kernel) rfl (k_vd (by decide)) dX7_word_81 ?_
              refine k_sx (x := 0) ((hw 16 (by decide)).trans rfl) ?_
              refine k_if_neF (pc := 82) C 93 dX7_word_82 (by decide) (by decide) ?_
              refine k_aload_n (pc := 85) C dX7_word_85 rfl ?_
              refine k_iload (pc := 86) C dX7_word_86 rfl ?_
              refine k_putI (pc := 88) C pl_X7_170 k_in7 rfl rfl dX7_word_88 ?_
              refine k_iload_n (pc := 91) C dX7_word_91 rfl ?_
              exact k_iret (pc := 92) C rfl  (k_fIm (by unfold f_X7_word; rw [if_neg hM0, if_pos hM1]; try rfl)) dX7_word_92
            | succ u ih =>
              intro j hju hres
              have hj : j < 7 := by omega
              have hkn : ¬ (k_wd (9 + j)) = 0 := (by decide : ∀ j, j < 7 → ¬ (k_wd (9 + j)) = 0) j hj
              refine k_aload_n (pc := 24) C dX7_word_24 rfl ?_
              refine k_getR (pc := 25) (r := some (8, 24, 0)) C fl_X7_75 k_in7 rfl rfl rfl dX7_word_25 ?_
              refine k_iload (pc := 28) C dX7_word_28 rfl ?_
              refine k_ialdX (pc := 30) (j := (9 + j)) C (nI_clamp (by omega)) (by decide +kernel) rfl (vp_in_nI (show _ < (43 : Nat) by omega) (show (43 : Nat) < 2 ^ 31 by decide)) dX7_word_30 ?_
              refine k_sx (x := k_wd (9 + j)) (hw (9 + j) (by omega)) ?_
              refine k_if_eqF (pc := 31) C 75 dX7_word_31 (by decide) hkn ?_
              refine k_iload (pc := 34) C dX7_word_34 rfl ?_
              refine k_aload_n (pc := 36) C dX7_word_36 rfl ?_
              refine k_getI (pc := 37) C fl_X7_173 k_in7 rfl rfl dX7_word_37 ?_
              refine k_icmp_ge (pc := 40) C 75 dX7_word_40 (by decide) (fun c40 => ?_) (fun c40 => ?_)
              · skip
                refine k_aload_n (pc := 75) C dX7_word_75 rfl ?_
                refine k_getR (pc := 76) (r := some (8, 24, 0)) C fl_X7_75 k_in7 rfl rfl rfl dX7_word_76 ?_
                refine k_iload (pc := 79) C dX7_word_79 rfl ?_
                refine k_ialdX (pc := 81) (j := (9 + j)) C (nI_clamp (by omega)) (by decide +kernel) rfl (vp_in_nI (show _ < (43 : Nat) by omega) (show (43 : Nat) < 2 ^ 31 by decide)) dX7_word_81 ?_
                refine k_sx (x := k_wd (9 + j)) (hw (9 + j) (by omega)) ?_
                refine k_if_neT (pc := 82) C 93 dX7_word_82 (by decide) hkn ?_
                have hrj : f_X7_wm mi ml 9 7 0 = j := by rw [← hres, f_X7_wm_s, if_pos c40]
                exact absurd (hrj.symm.trans hM1) (by omega)
              · skip
                refine k_aload_n (pc := 43) C dX7_word_43 rfl ?_
                refine k_getR (pc := 44) (r := some (9, 1, 0)) C fl_X7_68 k_in7 rfl rfl rfl dX7_word_44 ?_
                refine k_aload_n (pc := 47) C dX7_word_47 rfl ?_
                refine k_getI (pc := 48) C fl_X7_176 k_in7 rfl rfl dX7_word_48 ?_
                refine k_iload (pc := 51) C dX7_word_51 rfl ?_
                refine k_iadd (pc := 53) C dX7_word_53 ?_
                refine k_laldX (pc := 54) (j := ((mi (7, 0, 0) 28) + ((mi (7, 0, 0) 29) + (nI j))).toNatClampNeg) C rfl (by decide +kernel) rfl (k_cin2 hrd (show j < 1000 by omega) c40) dX7_word_54 ?_
                refine k_l2i (pc := 55) C dX7_word_55 ?_
                refine k_aload_n (pc := 56) C dX7_word_56 rfl ?_
                refine k_getR (pc := 57) (r := some (8, 24, 0)) C fl_X7_75 k_in7 rfl rfl rfl dX7_word_57 ?_
                refine k_iload (pc := 60) C dX7_word_60 rfl ?_
                refine k_ialdX (pc := 62) (j := (9 + j)) C (nI_clamp (by omega)) (by decide +kernel) rfl (vp_in_nI (show _ < (43 : Nat) by omega) (show (43 : Nat) < 2 ^ 31 by decide)) dX7_word_62 ?_
                refine k_sx (x := k_wd (9 + j)) (hw (9 + j) (by omega)) ?_
                refine k_icmp_ne (pc := 63) C 75 dX7_word_63 (by decide) (fun c63 => ?_) (fun c63 => ?_)
                · skip
                  refine k_aload_n (pc := 75) C dX7_word_75 rfl ?_
                  refine k_getR (pc := 76) (r := some (8, 24, 0)) C fl_X7_75 k_in7 rfl rfl rfl dX7_word_76 ?_
                  refine k_iload (pc := 79) C dX7_word_79 rfl ?_
                  refine k_ialdX (pc := 81) (j := (9 + j)) C (nI_clamp (by omega)) (by decide +kernel) rfl (vp_in_nI (show _ < (43 : Nat) by omega) (show (43 : Nat) < 2 ^ 31 by decide)) dX7_word_81 ?_
                  refine k_sx (x := k_wd (9 + j)) (hw (9 + j) (by omega)) ?_
                  refine k_if_neT (pc := 82) C 93 dX7_word_82 (by decide) hkn ?_
                  have hrj : f_X7_wm mi ml 9 7 0 = j := by rw [← hres, f_X7_wm_s, if_neg c40, if_neg c63]
                  exact absurd (hrj.symm.trans hM1) (by omega)
                · skip
                  refine k_iinc_4 (pc := 66) (v := ((mi (7, 0, 0) 29) + (nI j)) + 1) C dX7_word_66 rfl rfl ?_
                  refine k_iinc_5 (pc := 69) (v := nI ((9 + j) + 1)) C dX7_word_69 (k_inc (9 + j)) rfl ?_
                  refine k_goto (pc := 72) C 24 dX7_word_72 (by decide) ?_
                  exact k_cast (L' := [vR (7, 0, 0), vI 9, vI (k_mx (mi (7, 0, 0) 29) ((mi (7, 0, 0) 29) + (nI (f_X7_wm mi ml 0 8 0)))), vI 1, vI ((mi (7, 0, 0) 29) + (nI (j + 1))), vI (nI (9 + (j + 1)))]) (by rw [k_q1]; rfl) rfl rfl (ih (j + 1) (by omega) (by rw [← hres, f_X7_wm_s, if_neg c40, if_pos c63]))
          exact hloop 7 0 rfl rfl
        · skip
          have hmiss1 : k_V p l e (k_rm 0) s m args below meth c D cy ad bs k_KS k_R0 0 0 (k_End below D cy ad bs k_KS k_R0 (k_rt (some (vI (f_X7_word mi ml).1)) (f_X7_word mi ml).2 ml) args s) mi ml 93 [vR (7, 0, 0), vI 9, vI (k_mx (mi (7, 0, 0) 29) ((mi (7, 0, 0) 29) + (nI (f_X7_wm mi ml 0 8 0)))), vI 1, vI ((mi (7, 0, 0) 29) + (nI (f_X7_wm mi ml 9 7 0))), vU] [] := by
            have hmx : k_V p l e (k_rm 0) s m args below meth c D cy ad bs k_KS k_R0 0 0 (k_End below D cy ad bs k_KS k_R0 (k_rt (some (vI (f_X7_word mi ml).1)) (f_X7_word mi ml).2 ml) args s) mi ml 105 [vR (7, 0, 0), vI 9, vI (k_mx (mi (7, 0, 0) 29) ((mi (7, 0, 0) 29) + (nI (f_X7_wm mi ml 0 8 0)))), vI 1, vU, vU] [vI (k_mx (k_mx (mi (7, 0, 0) 29) ((mi (7, 0, 0) 29) + (nI (f_X7_wm mi ml 0 8 0)))) ((mi (7, 0, 0) 29) + (nI (f_X7_wm mi ml 9 7 0))))] := by
              refine k_istore_2 (pc := 105) C dX7_word_105 rfl ?_
              refine k_aload_n (pc := 106) C dX7_word_106 rfl ?_
              refine k_getR (pc := 107) (r := some (8, 24, 0)) C fl_X7_75 k_in7 rfl rfl rfl dX7_word_107 ?_
              refine k_iload_n (pc := 110) C dX7_word_110 rfl ?_
              refine k_ialdX (pc := 111) (j := 9) C (by decide) (by decide +kernel) rfl (k_vd (by decide)) dX7_word_111 ?_
              refine k_sx (x := 98) ((hw 9 (by decide)).trans rfl) ?_
              refine k_if_eqF (pc := 112) C 121 dX7_word_112 (by decide) (by decide) ?_
              refine k_iinc_1 (pc := 115) (v := 10) C dX7_word_115 (by decide) rfl ?_
              refine k_goto (pc := 118) C 106 dX7_word_118 (by decide) ?_
              refine k_aload_n (pc := 106) C dX7_word_106 rfl ?_
              refine k_getR (pc := 107) (r := some (8, 24, 0)) C fl_X7_75 k_in7 rfl rfl rfl dX7_word_107 ?_
              refine k_iload_n (pc := 110) C dX7_word_110 rfl ?_
              refine k_ialdX (pc := 111) (j := 10) C (by decide) (by decide +kernel) rfl (k_vd (by decide)) dX7_word_111 ?_
              refine k_sx (x := 101) ((hw 10 (by decide)).trans rfl) ?_
              refine k_if_eqF (pc := 112) C 121 dX7_word_112 (by decide) (by decide) ?_
              refine k_iinc_1 (pc := 115) (v := 11) C dX7_word_115 (by decide) rfl ?_
              refine k_goto (pc := 118) C 106 dX7_word_118 (by decide) ?_
              refine k_aload_n (pc := 106) C dX7_word_106 rfl ?_
              refine k_getR (pc := 107) (r := some (8, 24, 0)) C fl_X7_75 k_in7 rfl rfl rfl dX7_word_107 ?_
              refine k_iload_n (pc := 110) C dX7_word_110 rfl ?_
              refine k_ialdX (pc := 111) (j := 11) C (by decide) (by decide +kernel) rfl (k_vd (by decide)) dX7_word_111 ?_
              refine k_sx (x := 103) ((hw 11 (by decide)).trans rfl) ?_
              refine k_if_eqF (pc := 112) C 121 dX7_word_112 (by decide) (by decide) ?_
              refine k_iinc_1 (pc := 115) (v := 12) C dX7_word_115 (by decide) rfl ?_
              refine k_goto (pc := 118) C 106 dX7_word_118 (by decide) ?_
              refine k_aload_n (pc := 106) C dX7_word_106 rfl ?_
              refine k_getR (pc := 107) (r := some (8, 24, 0)) C fl_X7_75 k_in7 rfl rfl rfl dX7_word_107 ?_
              refine k_iload_n (pc := 110) C dX7_word_110 rfl ?_
              refine k_ialdX (pc := 111) (j := 12) C (by decide) (by decide +kernel) rfl (k_vd (by decide)) dX7_word_111 ?_
              refine k_sx (x := 103) ((hw 12 (by decide)).trans rfl) ?_
              refine k_if_eqF (pc := 112) C 121 dX7_word_112 (by decide) (by decide) ?_
              refine k_iinc_1 (pc := 115) (v := 13) C dX7_word_115 (by decide) rfl ?_
              refine k_goto (pc := 118) C 106 dX7_word_118 (by decide) ?_
              refine k_aload_n (pc := 106) C dX7_word_106 rfl ?_
              refine k_getR (pc := 107) (r := some (8, 24, 0)) C fl_X7_75 k_in7 rfl rfl rfl dX7_word_107 ?_
              refine k_iload_n (pc := 110) C dX7_word_110 rfl ?_
              refine k_ialdX (pc := 111) (j := 13) C (by decide) (by decide +kernel) rfl (k_vd (by decide)) dX7_word_111 ?_
              refine k_sx (x := 97) ((hw 13 (by decide)).trans rfl) ?_
              refine k_if_eqF (pc := 112) C 121 dX7_word_112 (by decide) (by decide) ?_
              refine k_iinc_1 (pc := 115) (v := 14) C dX7_word_115 (by decide) rfl ?_
              refine k_goto (pc := 118) C 106 dX7_word_118 (by decide) ?_
              refine k_aload_n (pc := 106) C dX7_word_106 rfl ?_
              refine k_getR (pc := 107) (r := some (8, 24, 0)) C fl_X7_75 k_in7 rfl rfl rfl dX7_word_107 ?_
              refine k_iload_n (pc := 110) C dX7_word_110 rfl ?_
              refine k_ialdX (pc := 111) (j := 14) C (by decide) (by decide +kernel) rfl (k_vd (by decide)) dX7_word_111 ?_
              refine k_sx (x := 114) ((hw 14 (by decide)).trans rfl) ?_
              refine k_if_eqF (pc := 112) C 121 dX7_word_112 (by decide) (by decide) ?_
              refine k_iinc_1 (pc := 115) (v := 15) C dX7_word_115 (by decide) rfl ?_
              refine k_goto (pc := 118) C 106 dX7_word_118 (by decide) ?_
              refine k_aload_n (pc := 106) C dX7_word_106 rfl ?_
              refine k_getR (pc := 107) (r := some (8, 24, 0)) C fl_X7_75 k_in7 rfl rfl rfl dX7_word_107 ?_
              refine k_iload_n (pc := 110) C dX7_word_110 rfl ?_
              refine k_ialdX (pc := 111) (j := 15) C (by decide) (by decide +kernel) rfl (k_vd (by decide)) dX7_word_111 ?_
              refine k_sx (x := 32) ((hw 15 (by decide)).trans rfl) ?_
              refine k_if_eqF (pc := 112) C 121 dX7_word_112 (by decide) (by decide) ?_
              refine k_iinc_1 (pc := 115) (v := 16) C dX7_word_115 (by decide) rfl ?_
              refine k_goto (pc := 118) C 106 dX7_word_118 (by decide) ?_
              refine k_aload_n (pc := 106) C dX7_word_106 rfl ?_
              refine k_getR (pc := 107) (r := some (8, 24, 0)) C fl_X7_75 k_in7 rfl rfl rfl dX7_word_107 ?_
              refine k_iload_n (pc := 110) C dX7_word_110 rfl ?_
              refine k_ialdX (pc := 111) (j := 16) C (by decide) (by decide +kernel) rfl (k_vd (by decide)) dX7_word_111 ?_
              refine k_sx (x := 0) ((hw 16 (by decide)).trans rfl) ?_
              refine k_if_eqT (pc := 112) C 121 dX7_word_112 (by decide) (by decide) ?_
              refine k_iinc_1 (pc := 121) (v := 17) C dX7_word_121 (by decide) rfl ?_
              refine k_iinc_3 (pc := 124) (v := 2) C dX7_word_124 (by decide) rfl ?_
              refine k_goto (pc := 127) C 9 dX7_word_127 (by decide) ?_
              refine k_iload_n (pc := 9) C dX7_word_9 rfl ?_
              refine k_bipush (pc := 10) (v := 6) C dX7_word_10 (by decide) ?_
              refine k_icmp_geF (pc := 12) C 130 dX7_word_12 (by decide) (by decide) ?_
              refine k_aload_n (pc := 15) C dX7_word_15 rfl ?_
              refine k_getI (pc := 16) C fl_X7_170 k_in7 rfl rfl dX7_word_16 ?_
              refine k_istore_4 (pc := 19) C dX7_word_19 rfl ?_
              refine k_iload_n (pc := 21) C dX7_word_21 rfl ?_
              refine k_istore_5 (pc := 22) C dX7_word_22 rfl ?_
              refine k_cast (L' := [vR (7, 0, 0), vI 17, vI (k_mx (k_mx (mi (7, 0, 0) 29) ((mi (7, 0, 0) 29) + (nI (f_X7_wm mi ml 0 8 0)))) ((mi (7, 0, 0) 29) + (nI (f_X7_wm mi ml 9 7 0)))), vI 2, vI ((mi (7, 0, 0) 29) + (nI 0)), vI (nI (17 + 0))]) (by rw [← k_q0] <;> rfl) rfl rfl ?_
              by_cases hM2 : (f_X7_wm mi ml 17 5 0) = 5
              · skip
                have hloop : ∀ (u j : Nat), j + u = 5 → f_X7_wm mi ml 17 u j = f_X7_wm mi ml 17 5 0 → k_V p l e (k_rm 0) s m args below meth c D cy ad bs k_KS k_R0 0 0 (k_End below D cy ad bs k_KS k_R0 (k_rt (some (vI (f_X7_word mi ml).1)) (f_X7_word mi ml).2 ml) args s) mi ml 24 [vR (7, 0, 0), vI 17, vI (k_mx (k_mx (mi (7, 0, 0) 29) ((mi (7, 0, 0) 29) + (nI (f_X7_wm mi ml 0 8 0)))) ((mi (7, 0, 0) 29) + (nI (f_X7_wm mi ml 9 7 0)))), vI 2, vI ((mi (7, 0, 0) 29) + (nI j)), vI (nI (17 + j))] [] := by
                  intro u
                  induction u with
                  | zero =>
                    intro j hju hres
                    have hjn : j = 5 := (by omega)
                    subst hjn
                    refine k_cast (L' := [vR (7, 0, 0), vI 17, vI (k_mx (k_mx (mi (7, 0, 0) 29) ((mi (7, 0, 0) 29) + (nI (f_X7_wm mi ml 0 8 0)))) ((mi (7, 0, 0) 29) + (nI (f_X7_wm mi ml 9 7 0)))), vI 2, vI ((mi (7, 0, 0) 29) + (nI 5)), vI 22]) (by rfl) rfl rfl ?_
                    refine k_aload_n (pc := 24) C dX7_word_24 rfl ?_
                    refine k_getR (pc := 25) (r := some (8, 24, 0)) C fl_X7_75 k_in7 rfl rfl rfl dX7_word_25 ?_
                    refine k_iload (pc := 28) C dX7_word_28 rfl ?_
                    refine k_ialdX (pc := 30) (j := 22) C (by decide) (by decide +kernel) rfl (k_vd (by decide)) dX7_word_30 ?_
                    refine k_sx (x := 0) ((hw 22 (by decide)).trans rfl) ?_
                    refine k_if_eqT (pc := 31) C 75 dX7_word_31 (by decide) (by decide) ?_
                    refine k_aload_n (pc := 75) C dX7_word_75 rfl ?_
                    refine k_getR (pc := 76) (r := some (8, 24, 0)) C fl_X7_75 k_in7 rfl rfl rfl dX7_word_76 ?_
                    refine k_iload (pc := 79) C dX7_word_79 rfl ?_
                    refine k_ialdX (pc := 81) (j := 22) C (by decide) (by decide +kernel) rfl (k_vd (by decide)) dX7_word_81 ?_
                    refine k_sx (x := 0) ((hw 22 (by decide)).trans rfl) ?_
                    refine k_if_neF (pc := 82) C 93 dX7_word_82 (by decide) (by decide) ?_
                    refine k_aload_n (pc := 85) C dX7_word_85 rfl ?_
                    refine k_iload (pc := 86) C dX7_word_86 rfl ?_
                    refine k_putI (pc := 88) C pl_X7_170 k_in7 rfl rfl dX7_word_88 ?_
                    refine k_iload_n (pc := 91) C dX7_word_91 rfl ?_
                    exact k_iret (pc := 92) C rfl  (k_fIm (by unfold f_X7_word; rw [if_neg hM0, if_neg hM1, if_pos hM2]; try rfl)) dX7_word_92
                  | succ u ih =>
                    intro j hju hres
                    have hj : j < 5 := by omega
                    have hkn : ¬ (k_wd (17 + j)) = 0 := (by decide : ∀ j, j < 5 → ¬ (k_wd (17 + j)) = 0) j hj
                    refine k_aload_n (pc := 24) C dX7_word_24 rfl ?_
                    refine k_getR (pc := 25) (r := some (8, 24, 0)) C fl_X7_75 k_in7 rfl rfl rfl dX7_word_25 ?_
                    refine k_iload (pc := 28) C dX7_word_28 rfl ?_
                    refine k_ialdX (pc := 30) (j := (17 + j)) C (nI_clamp (by omega)) (by decide +kernel) rfl (vp_in_nI (show _ < (43 : Nat) by omega) (show (43 : Nat) < 2 ^ 31 by decide)) dX7_word_30 ?_
                    refine k_sx (x := k_wd (17 + j)) (hw (17 + j) (by omega)) ?_
                    refine k_if_eqF (pc := 31) C 75 dX7_word_31 (by decide) hkn ?_
                    refine k_iload (pc := 34) C dX7_word_34 rfl ?_
                    refine k_aload_n (pc := 36) C dX7_word_36 rfl ?_
                    refine k_getI (pc := 37) C fl_X7_173 k_in7 rfl rfl dX7_word_37 ?_
                    refine k_icmp_ge (pc := 40) C 75 dX7_word_40 (by decide) (fun c40 => ?_) (fun c40 => ?_)
                    · skip
                      refine k_aload_n (pc := 75) C dX7_word_75 rfl ?_
                      refine k_getR (pc := 76) (r := some (8, 24, 0)) C fl_X7_75 k_in7 rfl rfl rfl dX7_word_76 ?_
                      refine k_iload (pc := 79) C dX7_word_79 rfl ?_
                      refine k_ialdX (pc := 81) (j := (17 + j)) C (nI_clamp (by omega)) (by decide +kernel) rfl (vp_in_nI (show _ < (43 : Nat) by omega) (show (43 : Nat) < 2 ^ 31 by decide)) dX7_word_81 ?_
                      refine k_sx (x := k_wd (17 + j)) (hw (17 + j) (by omega)) ?_
                      refine k_if_neT (pc := 82) C 93 dX7_word_82 (by decide) hkn ?_
                      have hrj : f_X7_wm mi ml 17 5 0 = j := by rw [← hres, f_X7_wm_s, if_pos c40]
                      exact absurd (hrj.symm.trans hM2) (by omega)
                    · skip
                      refine k_aload_n (pc := 43) C dX7_word_43 rfl ?_
                      refine k_getR (pc := 44) (r := some (9, 1, 0)) C fl_X7_68 k_in7 rfl rfl rfl dX7_word_44 ?_
                      refine k_aload_n (pc := 47) C dX7_word_47 rfl ?_
                      refine k_getI (pc := 48) C fl_X7_176 k_in7 rfl rfl dX7_word_48 ?_
                      refine k_iload (pc := 51) C dX7_word_51 rfl ?_
                      refine k_iadd (pc := 53) C dX7_word_53 ?_
                      refine k_laldX (pc := 54) (j := ((mi (7, 0, 0) 28) + ((mi (7, 0, 0) 29) + (nI j))).toNatClampNeg) C rfl (by decide +kernel) rfl (k_cin2 hrd (show j < 1000 by omega) c40) dX7_word_54 ?_
                      refine k_l2i (pc := 55) C dX7_word_55 ?_
                      refine k_aload_n (pc := 56) C dX7_word_56 rfl ?_
                      refine k_getR (pc := 57) (r := some (8, 24, 0)) C fl_X7_75 k_in7 rfl rfl rfl dX7_word_57 ?_
                      refine k_iload (pc := 60) C dX7_word_60 rfl ?_
                      refine k_ialdX (pc := 62) (j := (17 + j)) C (nI_clamp (by omega)) (by decide +kernel) rfl (vp_in_nI (show _ < (43 : Nat) by omega) (show (43 : Nat) < 2 ^ 31 by decide)) dX7_word_62 ?_
                      refine k_sx (x := k_wd (17 + j)) (hw (17 + j) (by omega)) ?_
                      refine k_icmp_ne (pc := 63) C 75 dX7_word_63 (by decide) (fun c63 => ?_) (fun c63 => ?_)
                      · skip
                        refine k_aload_n (pc := 75) C dX7_word_75 rfl ?_
                        refine k_getR (pc := 76) (r := some (8, 24, 0)) C fl_X7_75 k_in7 rfl rfl rfl dX7_word_76 ?_
                        refine k_iload (pc := 79) C dX7_word_79 rfl ?_
                        refine k_ialdX (pc := 81) (j := (17 + j)) C (nI_clamp (by omega)) (by decide +kernel) rfl (vp_in_nI (show _ < (43 : Nat) by omega) (show (43 : Nat) < 2 ^ 31 by decide)) dX7_word_81 ?_
                        refine k_sx (x := k_wd (17 + j)) (hw (17 + j) (by omega)) ?_
                        refine k_if_neT (pc := 82) C 93 dX7_word_82 (by decide) hkn ?_
                        have hrj : f_X7_wm mi ml 17 5 0 = j := by rw [← hres, f_X7_wm_s, if_neg c40, if_neg c63]
                        exact absurd (hrj.symm.trans hM2) (by omega)
                      · skip
                        refine k_iinc_4 (pc := 66) (v := ((mi (7, 0, 0) 29) + (nI j)) + 1) C dX7_word_66 rfl rfl ?_
                        refine k_iinc_5 (pc := 69) (v := nI ((17 + j) + 1)) C dX7_word_69 (k_inc (17 + j)) rfl ?_
                        refine k_goto (pc := 72) C 24 dX7_word_72 (by decide) ?_
                        exact k_cast (L' := [vR (7, 0, 0), vI 17, vI (k_mx (k_mx (mi (7, 0, 0) 29) ((mi (7, 0, 0) 29) + (nI (f_X7_wm mi ml 0 8 0)))) ((mi (7, 0, 0) 29) + (nI (f_X7_wm mi ml 9 7 0)))), vI 2, vI ((mi (7, 0, 0) 29) + (nI (j + 1))), vI (nI (17 + (j + 1)))]) (by rw [k_q1]; rfl) rfl rfl (ih (j + 1) (by omega) (by rw [← hres, f_X7_wm_s, if_neg c40, if_pos c63]))
                exact hloop 5 0 rfl rfl
              · skip
                have hmiss2 : k_V p l e (k_rm 0) s m args below meth c D cy ad bs k_KS k_R0 0 0 (k_End below D cy ad bs k_KS k_R0 (k_rt (some (vI (f_X7_word mi ml).1)) (f_X7_word mi ml).2 ml) args s) mi ml 93 [vR (7, 0, 0), vI 17, vI (k_mx (k_mx (mi (7, 0, 0) 29) ((mi (7, 0, 0) 29) + (nI (f_X7_wm mi ml 0 8 0)))) ((mi (7, 0, 0) 29) + (nI (f_X7_wm mi ml 9 7 0)))), vI 2, vI ((mi (7, 0, 0) 29) + (nI (f_X7_wm mi ml 17 5 0))), vU] [] := by
                  have hmx : k_V p l e (k_rm 0) s m args below meth c D cy ad bs k_KS k_R0 0 0 (k_End below D cy ad bs k_KS k_R0 (k_rt (some (vI (f_X7_word mi ml).1)) (f_X7_word mi ml).2 ml) args s) mi ml 105 [vR (7, 0, 0), vI 17, vI (k_mx (k_mx (mi (7, 0, 0) 29) ((mi (7, 0, 0) 29) + (nI (f_X7_wm mi ml 0 8 0)))) ((mi (7, 0, 0) 29) + (nI (f_X7_wm mi ml 9 7 0)))), vI 2, vU, vU] [vI (k_mx (k_mx (k_mx (mi (7, 0, 0) 29) ((mi (7, 0, 0) 29) + (nI (f_X7_wm mi ml 0 8 0)))) ((mi (7, 0, 0) 29) + (nI (f_X7_wm mi ml 9 7 0)))) ((mi (7, 0, 0) 29) + (nI (f_X7_wm mi ml 17 5 0))))] := by
                    refine k_istore_2 (pc := 105) C dX7_word_105 rfl ?_
                    refine k_aload_n (pc := 106) C dX7_word_106 rfl ?_
                    refine k_getR (pc := 107) (r := some (8, 24, 0)) C fl_X7_75 k_in7 rfl rfl rfl dX7_word_107 ?_
                    refine k_iload_n (pc := 110) C dX7_word_110 rfl ?_
                    refine k_ialdX (pc := 111) (j := 17) C (by decide) (by decide +kernel) rfl (k_vd (by decide)) dX7_word_111 ?_
                    refine k_sx (x := 119) ((hw 17 (by decide)).trans rfl) ?_
                    refine k_if_eqF (pc := 112) C 121 dX7_word_112 (by decide) (by decide) ?_
                    refine k_iinc_1 (pc := 115) (v := 18) C dX7_word_115 (by decide) rfl ?_
                    refine k_goto (pc := 118) C 106 dX7_word_118 (by decide) ?_
                    refine k_aload_n (pc := 106) C dX7_word_106 rfl ?_
                    refine k_getR (pc := 107) (r := some (8, 24, 0)) C fl_X7_75 k_in7 rfl rfl rfl dX7_word_107 ?_
                    refine k_iload_n (pc := 110) C dX7_word_110 rfl ?_
                    refine k_ialdX (pc := 111) (j := 18) C (by decide) (by decide +kernel) rfl (k_vd (by decide)) dX7_word_111 ?_
                    refine k_sx (x := 101) ((hw 18 (by decide)).trans rfl) ?_
                    refine k_if_eqF (pc := 112) C 121 dX7_word_112 (by decide) (by decide) ?_
                    refine k_iinc_1 (pc := 115) (v := 19) C dX7_word_115 (by decide) rfl ?_
                    refine k_goto (pc := 118) C 106 dX7_word_118 (by decide) ?_
                    refine k_aload_n (pc := 106) C dX7_word_106 rfl ?_
                    refine k_getR (pc := 107) (r := some (8, 24, 0)) C fl_X7_75 k_in7 rfl rfl rfl dX7_word_107 ?_
                    refine k_iload_n (pc := 110) C dX7_word_110 rfl ?_
                    refine k_ialdX (pc := 111) (j := 19) C (by decide) (by decide +kernel) rfl (k_vd (by decide)) dX7_word_111 ?_
                    refine k_sx (x := 97) ((hw 19 (by decide)).trans rfl) ?_
                    refine k_if_eqF (pc := 112) C 121 dX7_word_112 (by decide) (by decide) ?_
                    refine k_iinc_1 (pc := 115) (v := 20) C dX7_word_115 (by decide) rfl ?_
                    refine k_goto (pc := 118) C 106 dX7_word_118 (by decide) ?_
                    refine k_aload_n (pc := 106) C dX7_word_106 rfl ?_
                    refine k_getR (pc := 107) (r := some (8, 24, 0)) C fl_X7_75 k_in7 rfl rfl rfl dX7_word_107 ?_
                    refine k_iload_n (pc := 110) C dX7_word_110 rfl ?_
                    refine k_ialdX (pc := 111) (j := 20) C (by decide) (by decide +kernel) rfl (k_vd (by decide)) dX7_word_111 ?_
                    refine k_sx (x := 114) ((hw 20 (by decide)).trans rfl) ?_
                    refine k_if_eqF (pc := 112) C 121 dX7_word_112 (by decide) (by decide) ?_
                    refine k_iinc_1 (pc := 115) (v := 21) C dX7_word_115 (by decide) rfl ?_
                    refine k_goto (pc := 118) C 106 dX7_word_118 (by decide) ?_
                    refine k_aload_n (pc := 106) C dX7_word_106 rfl ?_
                    refine k_getR (pc := 107) (r := some (8, 24, 0)) C fl_X7_75 k_in7 rfl rfl rfl dX7_word_107 ?_
                    refine k_iload_n (pc := 110) C dX7_word_110 rfl ?_
                    refine k_ialdX (pc := 111) (j := 21) C (by decide) (by decide +kernel) rfl (k_vd (by decide)) dX7_word_111 ?_
                    refine k_sx (x := 32) ((hw 21 (by decide)).trans rfl) ?_
                    refine k_if_eqF (pc := 112) C 121 dX7_word_112 (by decide) (by decide) ?_
                    refine k_iinc_1 (pc := 115) (v := 22) C dX7_word_115 (by decide) rfl ?_
                    refine k_goto (pc := 118) C 106 dX7_word_118 (by decide) ?_
                    refine k_aload_n (pc := 106) C dX7_word_106 rfl ?_
                    refine k_getR (pc := 107) (r := some (8, 24, 0)) C fl_X7_75 k_in7 rfl rfl rfl dX7_word_107 ?_
                    refine k_iload_n (pc := 110) C dX7_word_110 rfl ?_
                    refine k_ialdX (pc := 111) (j := 22) C (by decide) (by decide +kernel) rfl (k_vd (by decide)) dX7_word_111 ?_
                    refine k_sx (x := 0) ((hw 22 (by decide)).trans rfl) ?_
                    refine k_if_eqT (pc := 112) C 121 dX7_word_112 (by decide) (by decide) ?_
                    refine k_iinc_1 (pc := 121) (v := 23) C dX7_word_121 (by decide) rfl ?_
                    refine k_iinc_3 (pc := 124) (v := 3) C dX7_word_124 (by decide) rfl ?_
                    refine k_goto (pc := 127) C 9 dX7_word_127 (by decide) ?_
                    refine k_iload_n (pc := 9) C dX7_word_9 rfl ?_
                    refine k_bipush (pc := 10) (v := 6) C dX7_word_10 (by decide) ?_
                    refine k_icmp_geF (pc := 12) C 130 dX7_word_12 (by decide) (by decide) ?_
                    refine k_aload_n (pc := 15) C dX7_word_15 rfl ?_
                    refine k_getI (pc := 16) C fl_X7_170 k_in7 rfl rfl dX7_word_16 ?_
                    refine k_istore_4 (pc := 19) C dX7_word_19 rfl ?_
                    refine k_iload_n (pc := 21) C dX7_word_21 rfl ?_
                    refine k_istore_5 (pc := 22) C dX7_word_22 rfl ?_
                    refine k_cast (L' := [vR (7, 0, 0), vI 23, vI (k_mx (k_mx (k_mx (mi (7, 0, 0) 29) ((mi (7, 0, 0) 29) + (nI (f_X7_wm mi ml 0 8 0)))) ((mi (7, 0, 0) 29) + (nI (f_X7_wm mi ml 9 7 0)))) ((mi (7, 0, 0) 29) + (nI (f_X7_wm mi ml 17 5 0)))), vI 3, vI ((mi (7, 0, 0) 29) + (nI 0)), vI (nI (23 + 0))]) (by rw [← k_q0] <;> rfl) rfl rfl ?_
                    by_cases hM3 : (f_X7_wm mi ml 23 6 0) = 6
                    · skip
                      have hloop : ∀ (u j : Nat), j + u = 6 → f_X7_wm mi ml 23 u j = f_X7_wm mi ml 23 6 0 → k_V p l e (k_rm 0) s m args below meth c D cy ad bs k_KS k_R0 0 0 (k_End below D cy ad bs k_KS k_R0 (k_rt (some (vI (f_X7_word mi ml).1)) (f_X7_word mi ml).2 ml) args s) mi ml 24 [vR (7, 0, 0), vI 23, vI (k_mx (k_mx (k_mx (mi (7, 0, 0) 29) ((mi (7, 0, 0) 29) + (nI (f_X7_wm mi ml 0 8 0)))) ((mi (7, 0, 0) 29) + (nI (f_X7_wm mi ml 9 7 0)))) ((mi (7, 0, 0) 29) + (nI (f_X7_wm mi ml 17 5 0)))), vI 3, vI ((mi (7, 0, 0) 29) + (nI j)), vI (nI (23 + j))] [] := by
                        intro u
                        induction u with
                        | zero =>
                          intro j hju hres
                          have hjn : j = 6 := (by omega)
                          subst hjn
                          refine k_cast (L' := [vR (7, 0, 0), vI 23, vI (k_mx (k_mx (k_mx (mi (7, 0, 0) 29) ((mi (7, 0, 0) 29) + (nI (f_X7_wm mi ml 0 8 0)))) ((mi (7, 0, 0) 29) + (nI (f_X7_wm mi ml 9 7 0)))) ((mi (7, 0, 0) 29) + (nI (f_X7_wm mi ml 17 5 0)))), vI 3, vI ((mi (7, 0, 0) 29) + (nI 6)), vI 29]) (by rfl) rfl rfl ?_
                          refine k_aload_n (pc := 24) C dX7_word_24 rfl ?_
                          refine k_getR (pc := 25) (r := some (8, 24, 0)) C fl_X7_75 k_in7 rfl rfl rfl dX7_word_25 ?_
                          refine k_iload (pc := 28) C dX7_word_28 rfl ?_
                          refine k_ialdX (pc := 30) (j := 29) C (by decide) (by decide +kernel) rfl (k_vd (by decide)) dX7_word_30 ?_
                          refine k_sx (x := 0) ((hw 29 (by decide)).trans rfl) ?_
                          refine k_if_eqT (pc := 31) C 75 dX7_word_31 (by decide) (by decide) ?_
                          refine k_aload_n (pc := 75) C dX7_word_75 rfl ?_
                          refine k_getR (pc := 76) (r := some (8, 24, 0)) C fl_X7_75 k_in7 rfl rfl rfl dX7_word_76 ?_
                          refine k_iload (pc := 79) C dX7_word_79 rfl ?_
                          refine k_ialdX (pc := 81) (j := 29) C (by decide) (by decide +kernel) rfl (k_vd (by decide)) dX7_word_81 ?_
                          refine k_sx (x := 0) ((hw 29 (by decide)).trans rfl) ?_
                          refine k_if_neF (pc := 82) C 93 dX7_word_82 (by decide) (by decide) ?_
                          refine k_aload_n (pc := 85) C dX7_word_85 rfl ?_
                          refine k_iload (pc := 86) C dX7_word_86 rfl ?_
                          refine k_putI (pc := 88) C pl_X7_170 k_in7 rfl rfl dX7_word_88 ?_
                          refine k_iload_n (pc := 91) C dX7_word_91 rfl ?_
                          exact k_iret (pc := 92) C rfl  (k_fIm (by unfold f_X7_word; rw [if_neg hM0, if_neg hM1, if_neg hM2, if_pos hM3]; try rfl)) dX7_word_92
                        | succ u ih =>
                          intro j hju hres
                          have hj : j < 6 := by omega
                          have hkn : ¬ (k_wd (23 + j)) = 0 := (by decide : ∀ j, j < 6 → ¬ (k_wd (23 + j)) = 0) j hj
                          refine k_aload_n (pc := 24) C dX7_word_24 rfl ?_
                          refine k_getR (pc := 25) (r := some (8, 24, 0)) C fl_X7_75 k_in7 rfl rfl rfl dX7_word_25 ?_
                          refine k_iload (pc := 28) C dX7_word_28 rfl ?_
                          refine k_ialdX (pc := 30) (j := (23 + j)) C (nI_clamp (by omega)) (by decide +kernel) rfl (vp_in_nI (show _ < (43 : Nat) by omega) (show (43 : Nat) < 2 ^ 31 by decide)) dX7_word_30 ?_
                          refine k_sx (x := k_wd (23 + j)) (hw (23 + j) (by omega)) ?_
                          refine k_if_eqF (pc := 31) C 75 dX7_word_31 (by decide) hkn ?_
                          refine k_iload (pc := 34) C dX7_word_34 rfl ?_
                          refine k_aload_n (pc := 36) C dX7_word_36 rfl ?_
                          refine k_getI (pc := 37) C fl_X7_173 k_in7 rfl rfl dX7_word_37 ?_
                          refine k_icmp_ge (pc := 40) C 75 dX7_word_40 (by decide) (fun c40 => ?_) (fun c40 => ?_)
                          · skip
                            refine k_aload_n (pc := 75) C dX7_word_75 rfl ?_
                            refine k_getR (pc := 76) (r := some (8, 24, 0)) C fl_X7_75 k_in7 rfl rfl rfl dX7_word_76 ?_
                            refine k_iload (pc := 79) C dX7_word_79 rfl ?_
                            refine k_ialdX (pc := 81) (j := (23 + j)) C (nI_clamp (by omega)) (by decide +kernel) rfl (vp_in_nI (show _ < (43 : Nat) by omega) (show (43 : Nat) < 2 ^ 31 by decide)) dX7_word_81 ?_
                            refine k_sx (x := k_wd (23 + j)) (hw (23 + j) (by omega)) ?_
                            refine k_if_neT (pc := 82) C 93 dX7_word_82 (by decide) hkn ?_
                            have hrj : f_X7_wm mi ml 23 6 0 = j := by rw [← hres, f_X7_wm_s, if_pos c40]
                            exact absurd (hrj.symm.trans hM3) (by omega)
                          · skip
                            refine k_aload_n (pc := 43) C dX7_word_43 rfl ?_
                            refine k_getR (pc := 44) (r := some (9, 1, 0)) C fl_X7_68 k_in7 rfl rfl rfl dX7_word_44 ?_
                            refine k_aload_n (pc := 47) C dX7_word_47 rfl ?_
                            refine k_getI (pc := 48) C fl_X7_176 k_in7 rfl rfl dX7_word_48 ?_
                            refine k_iload (pc := 51) C dX7_word_51 rfl ?_
                            refine k_iadd (pc := 53) C dX7_word_53 ?_
                            refine k_laldX (pc := 54) (j := ((mi (7, 0, 0) 28) + ((mi (7, 0, 0) 29) + (nI j))).toNatClampNeg) C rfl (by decide +kernel) rfl (k_cin2 hrd (show j < 1000 by omega) c40) dX7_word_54 ?_
                            refine k_l2i (pc := 55) C dX7_word_55 ?_
                            refine k_aload_n (pc := 56) C dX7_word_56 rfl ?_
                            refine k_getR (pc := 57) (r := some (8, 24, 0)) C fl_X7_75 k_in7 rfl rfl rfl dX7_word_57 ?_
                            refine k_iload (pc := 60) C dX7_word_60 rfl ?_
                            refine k_ialdX (pc := 62) (j := (23 + j)) C (nI_clamp (by omega)) (by decide +kernel) rfl (vp_in_nI (show _ < (43 : Nat) by omega) (show (43 : Nat) < 2 ^ 31 by decide)) dX7_word_62 ?_
                            refine k_sx (x := k_wd (23 + j)) (hw (23 + j) (by omega)) ?_
                            refine k_icmp_ne (pc := 63) C 75 dX7_word_63 (by decide) (fun c63 => ?_) (fun c63 => ?_)
                            · skip
                              refine k_aload_n (pc := 75) C dX7_word_75 rfl ?_
                              refine k_getR (pc := 76) (r := some (8, 24, 0)) C fl_X7_75 k_in7 rfl rfl rfl dX7_word_76 ?_
                              refine k_iload (pc := 79) C dX7_word_79 rfl ?_
                              refine k_ialdX (pc := 81) (j := (23 + j)) C (nI_clamp (by omega)) (by decide +kernel) rfl (vp_in_nI (show _ < (43 : Nat) by omega) (show (43 : Nat) < 2 ^ 31 by decide)) dX7_word_81 ?_
                              refine k_sx (x := k_wd (23 + j)) (hw (23 + j) (by omega)) ?_
                              refine k_if_neT (pc := 82) C 93 dX7_word_82 (by decide) hkn ?_
                              have hrj : f_X7_wm mi ml 23 6 0 = j := by rw [← hres, f_X7_wm_s, if_neg c40, if_neg c63]
                              exact absurd (hrj.symm.trans hM3) (by omega)
                            · skip
                              refine k_iinc_4 (pc := 66) (v := ((mi (7, 0, 0) 29) + (nI j)) + 1) C dX7_word_66 rfl rfl ?_
                              refine k_iinc_5 (pc := 69) (v := nI ((23 + j) + 1)) C dX7_word_69 (k_inc (23 + j)) rfl ?_
                              refine k_goto (pc := 72) C 24 dX7_word_72 (by decide) ?_
                              exact k_cast (L' := [vR (7, 0, 0), vI 23, vI (k_mx (k_mx (k_mx (mi (7, 0, 0) 29) ((mi (7, 0, 0) 29) + (nI (f_X7_wm mi ml 0 8 0)))) ((mi (7, 0, 0) 29) + (nI (f_X7_wm mi ml 9 7 0)))) ((mi (7, 0, 0) 29) + (nI (f_X7_wm mi ml 17 5 0)))), vI 3, vI ((mi (7, 0, 0) 29) + (nI (j + 1))), vI (nI (23 + (j + 1)))]) (by rw [k_q1]; rfl) rfl rfl (ih (j + 1) (by omega) (by rw [← hres, f_X7_wm_s, if_neg c40, if_pos c63]))
                      exact hloop 6 0 rfl rfl
                    · skip
                      have hmiss3 : k_V p l e (k_rm 0) s m args below meth c D cy ad bs k_KS k_R0 0 0 (k_End below D cy ad bs k_KS k_R0 (k_rt (some (vI (f_X7_word mi ml).1)) (f_X7_word mi ml).2 ml) args s) mi ml 93 [vR (7, 0, 0), vI 23, vI (k_mx (k_mx (k_mx (mi (7, 0, 0) 29) ((mi (7, 0, 0) 29) + (nI (f_X7_wm mi ml 0 8 0)))) ((mi (7, 0, 0) 29) + (nI (f_X7_wm mi ml 9 7 0)))) ((mi (7, 0, 0) 29) + (nI (f_X7_wm mi ml 17 5 0)))), vI 3, vI ((mi (7, 0, 0) 29) + (nI (f_X7_wm mi ml 23 6 0))), vU] [] := by
                        have hmx : k_V p l e (k_rm 0) s m args below meth c D cy ad bs k_KS k_R0 0 0 (k_End below D cy ad bs k_KS k_R0 (k_rt (some (vI (f_X7_word mi ml).1)) (f_X7_word mi ml).2 ml) args s) mi ml 105 [vR (7, 0, 0), vI 23, vI (k_mx (k_mx (k_mx (mi (7, 0, 0) 29) ((mi (7, 0, 0) 29) + (nI (f_X7_wm mi ml 0 8 0)))) ((mi (7, 0, 0) 29) + (nI (f_X7_wm mi ml 9 7 0)))) ((mi (7, 0, 0) 29) + (nI (f_X7_wm mi ml 17 5 0)))), vI 3, vU, vU] [vI (k_mx (k_mx (k_mx (k_mx (mi (7, 0, 0) 29) ((mi (7, 0, 0) 29) + (nI (f_X7_wm mi ml 0 8 0)))) ((mi (7, 0, 0) 29) + (nI (f_X7_wm mi ml 9 7 0)))) ((mi (7, 0, 0) 29) + (nI (f_X7_wm mi ml 17 5 0)))) ((mi (7, 0, 0) 29) + (nI (f_X7_wm mi ml 23 6 0))))] := by
                          refine k_istore_2 (pc := 105) C dX7_word_105 rfl ?_
                          refine k_aload_n (pc := 106) C dX7_word_106 rfl ?_
                          refine k_getR (pc := 107) (r := some (8, 24, 0)) C fl_X7_75 k_in7 rfl rfl rfl dX7_word_107 ?_
                          refine k_iload_n (pc := 110) C dX7_word_110 rfl ?_
                          refine k_ialdX (pc := 111) (j := 23) C (by decide) (by decide +kernel) rfl (k_vd (by decide)) dX7_word_111 ?_
                          refine k_sx (x := 104) ((hw 23 (by decide)).trans rfl) ?_
                          refine k_if_eqF (pc := 112) C 121 dX7_word_112 (by decide) (by decide) ?_
                          refine k_iinc_1 (pc := 115) (v := 24) C dX7_word_115 (by decide) rfl ?_
                          refine k_goto (pc := 118) C 106 dX7_word_118 (by decide) ?_
                          refine k_aload_n (pc := 106) C dX7_word_106 rfl ?_
                          refine k_getR (pc := 107) (r := some (8, 24, 0)) C fl_X7_75 k_in7 rfl rfl rfl dX7_word_107 ?_
                          refine k_iload_n (pc := 110) C dX7_word_110 rfl ?_
                          refine k_ialdX (pc := 111) (j := 24) C (by decide) (by decide +kernel) rfl (k_vd (by decide)) dX7_word_111 ?_
                          refine k_sx (x := 105) ((hw 24 (by decide)).trans rfl) ?_
                          refine k_if_eqF (pc := 112) C 121 dX7_word_112 (by decide) (by decide) ?_
                          refine k_iinc_1 (pc := 115) (v := 25) C dX7_word_115 (by decide) rfl ?_
                          refine k_goto (pc := 118) C 106 dX7_word_118 (by decide) ?_
                          refine k_aload_n (pc := 106) C dX7_word_106 rfl ?_
                          refine k_getR (pc := 107) (r := some (8, 24, 0)) C fl_X7_75 k_in7 rfl rfl rfl dX7_word_107 ?_
                          refine k_iload_n (pc := 110) C dX7_word_110 rfl ?_
                          refine k_ialdX (pc := 111) (j := 25) C (by decide) (by decide +kernel) rfl (k_vd (by decide)) dX7_word_111 ?_
                          refine k_sx (x := 100) ((hw 25 (by decide)).trans rfl) ?_
                          refine k_if_eqF (pc := 112) C 121 dX7_word_112 (by decide) (by decide) ?_
                          refine k_iinc_1 (pc := 115) (v := 26) C dX7_word_115 (by decide) rfl ?_
                          refine k_goto (pc := 118) C 106 dX7_word_118 (by decide) ?_
                          refine k_aload_n (pc := 106) C dX7_word_106 rfl ?_
                          refine k_getR (pc := 107) (r := some (8, 24, 0)) C fl_X7_75 k_in7 rfl rfl rfl dX7_word_107 ?_
                          refine k_iload_n (pc := 110) C dX7_word_110 rfl ?_
                          refine k_ialdX (pc := 111) (j := 26) C (by decide) (by decide +kernel) rfl (k_vd (by decide)) dX7_word_111 ?_
                          refine k_sx (x := 101) ((hw 26 (by decide)).trans rfl) ?_
                          refine k_if_eqF (pc := 112) C 121 dX7_word_112 (by decide) (by decide) ?_
                          refine k_iinc_1 (pc := 115) (v := 27) C dX7_word_115 (by decide) rfl ?_
                          refine k_goto (pc := 118) C 106 dX7_word_118 (by decide) ?_
                          refine k_aload_n (pc := 106) C dX7_word_106 rfl ?_
                          refine k_getR (pc := 107) (r := some (8, 24, 0)) C fl_X7_75 k_in7 rfl rfl rfl dX7_word_107 ?_
                          refine k_iload_n (pc := 110) C dX7_word_110 rfl ?_
                          refine k_ialdX (pc := 111) (j := 27) C (by decide) (by decide +kernel) rfl (k_vd (by decide)) dX7_word_111 ?_
                          refine k_sx (x := 115) ((hw 27 (by decide)).trans rfl) ?_
                          refine k_if_eqF (pc := 112) C 121 dX7_word_112 (by decide) (by decide) ?_
                          refine k_iinc_1 (pc := 115) (v := 28) C dX7_word_115 (by decide) rfl ?_
                          refine k_goto (pc := 118) C 106 dX7_word_118 (by decide) ?_
                          refine k_aload_n (pc := 106) C dX7_word_106 rfl ?_
                          refine k_getR (pc := 107) (r := some (8, 24, 0)) C fl_X7_75 k_in7 rfl rfl rfl dX7_word_107 ?_
                          refine k_iload_n (pc := 110) C dX7_word_110 rfl ?_
                          refine k_ialdX (pc := 111) (j := 28) C (by decide) (by decide +kernel) rfl (k_vd (by decide)) dX7_word_111 ?_
                          refine k_sx (x := 32) ((hw 28 (by decide)).trans rfl) ?_
                          refine k_if_eqF (pc := 112) C 121 dX7_word_112 (by decide) (by decide) ?_
                          refine k_iinc_1 (pc := 115) (v := 29) C dX7_word_115 (by decide) rfl ?_
                          refine k_goto (pc := 118) C 106 dX7_word_118 (by decide) ?_
                          refine k_aload_n (pc := 106) C dX7_word_106 rfl ?_
                          refine k_getR (pc := 107) (r := some (8, 24, 0)) C fl_X7_75 k_in7 rfl rfl rfl dX7_word_107 ?_
                          refine k_iload_n (pc := 110) C dX7_word_110 rfl ?_
                          refine k_ialdX (pc := 111) (j := 29) C (by decide) (by decide +kernel) rfl (k_vd (by decide)) dX7_word_111 ?_
                          refine k_sx (x := 0) ((hw 29 (by decide)).trans rfl) ?_
                          refine k_if_eqT (pc := 112) C 121 dX7_word_112 (by decide) (by decide) ?_
                          refine k_iinc_1 (pc := 121) (v := 30) C dX7_word_121 (by decide) rfl ?_
                          refine k_iinc_3 (pc := 124) (v := 4) C dX7_word_124 (by decide) rfl ?_
                          refine k_goto (pc := 127) C 9 dX7_word_127 (by decide) ?_
                          refine k_iload_n (pc := 9) C dX7_word_9 rfl ?_
                          refine k_bipush (pc := 10) (v := 6) C dX7_word_10 (by decide) ?_
                          refine k_icmp_geF (pc := 12) C 130 dX7_word_12 (by decide) (by decide) ?_
                          refine k_aload_n (pc := 15) C dX7_word_15 rfl ?_
                          refine k_getI (pc := 16) C fl_X7_170 k_in7 rfl rfl dX7_word_16 ?_
                          refine k_istore_4 (pc := 19) C dX7_word_19 rfl ?_
                          refine k_iload_n (pc := 21) C dX7_word_21 rfl ?_
                          refine k_istore_5 (pc := 22) C dX7_word_22 rfl ?_
                          refine k_cast (L' := [vR (7, 0, 0), vI 30, vI (k_mx (k_mx (k_mx (k_mx (mi (7, 0, 0) 29) ((mi (7, 0, 0) 29) + (nI (f_X7_wm mi ml 0 8 0)))) ((mi (7, 0, 0) 29) + (nI (f_X7_wm mi ml 9 7 0)))) ((mi (7, 0, 0) 29) + (nI (f_X7_wm mi ml 17 5 0)))) ((mi (7, 0, 0) 29) + (nI (f_X7_wm mi ml 23 6 0)))), vI 4, vI ((mi (7, 0, 0) 29) + (nI 0)), vI (nI (30 + 0))]) (by rw [← k_q0] <;> rfl) rfl rfl ?_
                          by_cases hM4 : (f_X7_wm mi ml 30 6 0) = 6
                          · skip
                            have hloop : ∀ (u j : Nat), j + u = 6 → f_X7_wm mi ml 30 u j = f_X7_wm mi ml 30 6 0 → k_V p l e (k_rm 0) s m args below meth c D cy ad bs k_KS k_R0 0 0 (k_End below D cy ad bs k_KS k_R0 (k_rt (some (vI (f_X7_word mi ml).1)) (f_X7_word mi ml).2 ml) args s) mi ml 24 [vR (7, 0, 0), vI 30, vI (k_mx (k_mx (k_mx (k_mx (mi (7, 0, 0) 29) ((mi (7, 0, 0) 29) + (nI (f_X7_wm mi ml 0 8 0)))) ((mi (7, 0, 0) 29) + (nI (f_X7_wm mi ml 9 7 0)))) ((mi (7, 0, 0) 29) + (nI (f_X7_wm mi ml 17 5 0)))) ((mi (7, 0, 0) 29) + (nI (f_X7_wm mi ml 23 6 0)))), vI 4, vI ((mi (7, 0, 0) 29) + (nI j)), vI (nI (30 + j))] [] := by
                              intro u
                              induction u with
                              | zero =>
                                intro j hju hres
                                have hjn : j = 6 := (by omega)
                                subst hjn
                                refine k_cast (L' := [vR (7, 0, 0), vI 30, vI (k_mx (k_mx (k_mx (k_mx (mi (7, 0, 0) 29) ((mi (7, 0, 0) 29) + (nI (f_X7_wm mi ml 0 8 0)))) ((mi (7, 0, 0) 29) + (nI (f_X7_wm mi ml 9 7 0)))) ((mi (7, 0, 0) 29) + (nI (f_X7_wm mi ml 17 5 0)))) ((mi (7, 0, 0) 29) + (nI (f_X7_wm mi ml 23 6 0)))), vI 4, vI ((mi (7, 0, 0) 29) + (nI 6)), vI 36]) (by rfl) rfl rfl ?_
                                refine k_aload_n (pc := 24) C dX7_word_24 rfl ?_
                                refine k_getR (pc := 25) (r := some (8, 24, 0)) C fl_X7_75 k_in7 rfl rfl rfl dX7_word_25 ?_
                                refine k_iload (pc := 28) C dX7_word_28 rfl ?_
                                refine k_ialdX (pc := 30) (j := 36) C (by decide) (by decide +kernel) rfl (k_vd (by decide)) dX7_word_30 ?_
                                refine k_sx (x := 0) ((hw 36 (by decide)).trans rfl) ?_
                                refine k_if_eqT (pc := 31) C 75 dX7_word_31 (by decide) (by decide) ?_
                                refine k_aload_n (pc := 75) C dX7_word_75 rfl ?_
                                refine k_getR (pc := 76) (r := some (8, 24, 0)) C fl_X7_75 k_in7 rfl rfl rfl dX7_word_76 ?_
                                refine k_iload (pc := 79) C dX7_word_79 rfl ?_
                                refine k_ialdX (pc := 81) (j := 36) C (by decide) (by decide +kernel) rfl (k_vd (by decide)) dX7_word_81 ?_
                                refine k_sx (x := 0) ((hw 36 (by decide)).trans rfl) ?_
                                refine k_if_neF (pc := 82) C 93 dX7_word_82 (by decide) (by decide) ?_
                                refine k_aload_n (pc := 85) C dX7_word_85 rfl ?_
                                refine k_iload (pc := 86) C dX7_word_86 rfl ?_
                                refine k_putI (pc := 88) C pl_X7_170 k_in7 rfl rfl dX7_word_88 ?_
                                refine k_iload_n (pc := 91) C dX7_word_91 rfl ?_
                                exact k_iret (pc := 92) C rfl  (k_fIm (by unfold f_X7_word; rw [if_neg hM0, if_neg hM1, if_neg hM2, if_neg hM3, if_pos hM4]; try rfl)) dX7_word_92
                              | succ u ih =>
                                intro j hju hres
                                have hj : j < 6 := by omega
                                have hkn : ¬ (k_wd (30 + j)) = 0 := (by decide : ∀ j, j < 6 → ¬ (k_wd (30 + j)) = 0) j hj
                                refine k_aload_n (pc := 24) C dX7_word_24 rfl ?_
                                refine k_getR (pc := 25) (r := some (8, 24, 0)) C fl_X7_75 k_in7 rfl rfl rfl dX7_word_25 ?_
                                refine k_iload (pc := 28) C dX7_word_28 rfl ?_
                                refine k_ialdX (pc := 30) (j := (30 + j)) C (nI_clamp (by omega)) (by decide +kernel) rfl (vp_in_nI (show _ < (43 : Nat) by omega) (show (43 : Nat) < 2 ^ 31 by decide)) dX7_word_30 ?_
                                refine k_sx (x := k_wd (30 + j)) (hw (30 + j) (by omega)) ?_
                                refine k_if_eqF (pc := 31) C 75 dX7_word_31 (by decide) hkn ?_
                                refine k_iload (pc := 34) C dX7_word_34 rfl ?_
                                refine k_aload_n (pc := 36) C dX7_word_36 rfl ?_
                                refine k_getI (pc := 37) C fl_X7_173 k_in7 rfl rfl dX7_word_37 ?_
                                refine k_icmp_ge (pc := 40) C 75 dX7_word_40 (by decide) (fun c40 => ?_) (fun c40 => ?_)
                                · skip
                                  refine k_aload_n (pc := 75) C dX7_word_75 rfl ?_
                                  refine k_getR (pc := 76) (r := some (8, 24, 0)) C fl_X7_75 k_in7 rfl rfl rfl dX7_word_76 ?_
                                  refine k_iload (pc := 79) C dX7_word_79 rfl ?_
                                  refine k_ialdX (pc := 81) (j := (30 + j)) C (nI_clamp (by omega)) (by decide +kernel) rfl (vp_in_nI (show _ < (43 : Nat) by omega) (show (43 : Nat) < 2 ^ 31 by decide)) dX7_word_81 ?_
                                  refine k_sx (x := k_wd (30 + j)) (hw (30 + j) (by omega)) ?_
                                  refine k_if_neT (pc := 82) C 93 dX7_word_82 (by decide) hkn ?_
                                  have hrj : f_X7_wm mi ml 30 6 0 = j := by rw [← hres, f_X7_wm_s, if_pos c40]
                                  exact absurd (hrj.symm.trans hM4) (by omega)
                                · skip
                                  refine k_aload_n (pc := 43) C dX7_word_43 rfl ?_
                                  refine k_getR (pc := 44) (r := some (9, 1, 0)) C fl_X7_68 k_in7 rfl rfl rfl dX7_word_44 ?_
                                  refine k_aload_n (pc := 47) C dX7_word_47 rfl ?_
                                  refine k_getI (pc := 48) C fl_X7_176 k_in7 rfl rfl dX7_word_48 ?_
                                  refine k_iload (pc := 51) C dX7_word_51 rfl ?_
                                  refine k_iadd (pc := 53) C dX7_word_53 ?_
                                  refine k_laldX (pc := 54) (j := ((mi (7, 0, 0) 28) + ((mi (7, 0, 0) 29) + (nI j))).toNatClampNeg) C rfl (by decide +kernel) rfl (k_cin2 hrd (show j < 1000 by omega) c40) dX7_word_54 ?_
                                  refine k_l2i (pc := 55) C dX7_word_55 ?_
                                  refine k_aload_n (pc := 56) C dX7_word_56 rfl ?_
                                  refine k_getR (pc := 57) (r := some (8, 24, 0)) C fl_X7_75 k_in7 rfl rfl rfl dX7_word_57 ?_
                                  refine k_iload (pc := 60) C dX7_word_60 rfl ?_
                                  refine k_ialdX (pc := 62) (j := (30 + j)) C (nI_clamp (by omega)) (by decide +kernel) rfl (vp_in_nI (show _ < (43 : Nat) by omega) (show (43 : Nat) < 2 ^ 31 by decide)) dX7_word_62 ?_
                                  refine k_sx (x := k_wd (30 + j)) (hw (30 + j) (by omega)) ?_
                                  refine k_icmp_ne (pc := 63) C 75 dX7_word_63 (by decide) (fun c63 => ?_) (fun c63 => ?_)
                                  · skip
                                    refine k_aload_n (pc := 75) C dX7_word_75 rfl ?_
                                    refine k_getR (pc := 76) (r := some (8, 24, 0)) C fl_X7_75 k_in7 rfl rfl rfl dX7_word_76 ?_
                                    refine k_iload (pc := 79) C dX7_word_79 rfl ?_
                                    refine k_ialdX (pc := 81) (j := (30 + j)) C (nI_clamp (by omega)) (by decide +kernel) rfl (vp_in_nI (show _ < (43 : Nat) by omega) (show (43 : Nat) < 2 ^ 31 by decide)) dX7_word_81 ?_
                                    refine k_sx (x := k_wd (30 + j)) (hw (30 + j) (by omega)) ?_
                                    refine k_if_neT (pc := 82) C 93 dX7_word_82 (by decide) hkn ?_
                                    have hrj : f_X7_wm mi ml 30 6 0 = j := by rw [← hres, f_X7_wm_s, if_neg c40, if_neg c63]
                                    exact absurd (hrj.symm.trans hM4) (by omega)
                                  · skip
                                    refine k_iinc_4 (pc := 66) (v := ((mi (7, 0, 0) 29) + (nI j)) + 1) C dX7_word_66 rfl rfl ?_
                                    refine k_iinc_5 (pc := 69) (v := nI ((30 + j) + 1)) C dX7_word_69 (k_inc (30 + j)) rfl ?_
                                    refine k_goto (pc := 72) C 24 dX7_word_72 (by decide) ?_
                                    exact k_cast (L' := [vR (7, 0, 0), vI 30, vI (k_mx (k_mx (k_mx (k_mx (mi (7, 0, 0) 29) ((mi (7, 0, 0) 29) + (nI (f_X7_wm mi ml 0 8 0)))) ((mi (7, 0, 0) 29) + (nI (f_X7_wm mi ml 9 7 0)))) ((mi (7, 0, 0) 29) + (nI (f_X7_wm mi ml 17 5 0)))) ((mi (7, 0, 0) 29) + (nI (f_X7_wm mi ml 23 6 0)))), vI 4, vI ((mi (7, 0, 0) 29) + (nI (j + 1))), vI (nI (30 + (j + 1)))]) (by rw [k_q1]; rfl) rfl rfl (ih (j + 1) (by omega) (by rw [← hres, f_X7_wm_s, if_neg c40, if_pos c63]))
                            exact hloop 6 0 rfl rfl
                          · skip
                            have hmiss4 : k_V p l e (k_rm 0) s m args below meth c D cy ad bs k_KS k_R0 0 0 (k_End below D cy ad bs k_KS k_R0 (k_rt (some (vI (f_X7_word mi ml).1)) (f_X7_word mi ml).2 ml) args s) mi ml 93 [vR (7, 0, 0), vI 30, vI (k_mx (k_mx (k_mx (k_mx (mi (7, 0, 0) 29) ((mi (7, 0, 0) 29) + (nI (f_X7_wm mi ml 0 8 0)))) ((mi (7, 0, 0) 29) + (nI (f_X7_wm mi ml 9 7 0)))) ((mi (7, 0, 0) 29) + (nI (f_X7_wm mi ml 17 5 0)))) ((mi (7, 0, 0) 29) + (nI (f_X7_wm mi ml 23 6 0)))), vI 4, vI ((mi (7, 0, 0) 29) + (nI (f_X7_wm mi ml 30 6 0))), vU] [] := by
                              have hmx : k_V p l e (k_rm 0) s m args below meth c D cy ad bs k_KS k_R0 0 0 (k_End below D cy ad bs k_KS k_R0 (k_rt (some (vI (f_X7_word mi ml).1)) (f_X7_word mi ml).2 ml) args s) mi ml 105 [vR (7, 0, 0), vI 30, vI (k_mx (k_mx (k_mx (k_mx (mi (7, 0, 0) 29) ((mi (7, 0, 0) 29) + (nI (f_X7_wm mi ml 0 8 0)))) ((mi (7, 0, 0) 29) + (nI (f_X7_wm mi ml 9 7 0)))) ((mi (7, 0, 0) 29) + (nI (f_X7_wm mi ml 17 5 0)))) ((mi (7, 0, 0) 29) + (nI (f_X7_wm mi ml 23 6 0)))), vI 4, vU, vU] [vI (k_mx (k_mx (k_mx (k_mx (k_mx (mi (7, 0, 0) 29) ((mi (7, 0, 0) 29) + (nI (f_X7_wm mi ml 0 8 0)))) ((mi (7, 0, 0) 29) + (nI (f_X7_wm mi ml 9 7 0)))) ((mi (7, 0, 0) 29) + (nI (f_X7_wm mi ml 17 5 0)))) ((mi (7, 0, 0) 29) + (nI (f_X7_wm mi ml 23 6 0)))) ((mi (7, 0, 0) 29) + (nI (f_X7_wm mi ml 30 6 0))))] := by
                                refine k_istore_2 (pc := 105) C dX7_word_105 rfl ?_
                                refine k_aload_n (pc := 106) C dX7_word_106 rfl ?_
                                refine k_getR (pc := 107) (r := some (8, 24, 0)) C fl_X7_75 k_in7 rfl rfl rfl dX7_word_107 ?_
                                refine k_iload_n (pc := 110) C dX7_word_110 rfl ?_
                                refine k_ialdX (pc := 111) (j := 30) C (by decide) (by decide +kernel) rfl (k_vd (by decide)) dX7_word_111 ?_
                                refine k_sx (x := 99) ((hw 30 (by decide)).trans rfl) ?_
                                refine k_if_eqF (pc := 112) C 121 dX7_word_112 (by decide) (by decide) ?_
                                refine k_iinc_1 (pc := 115) (v := 31) C dX7_word_115 (by decide) rfl ?_
                                refine k_goto (pc := 118) C 106 dX7_word_118 (by decide) ?_
                                refine k_aload_n (pc := 106) C dX7_word_106 rfl ?_
                                refine k_getR (pc := 107) (r := some (8, 24, 0)) C fl_X7_75 k_in7 rfl rfl rfl dX7_word_107 ?_
                                refine k_iload_n (pc := 110) C dX7_word_110 rfl ?_
                                refine k_ialdX (pc := 111) (j := 31) C (by decide) (by decide +kernel) rfl (k_vd (by decide)) dX7_word_111 ?_
                                refine k_sx (x := 111) ((hw 31 (by decide)).trans rfl) ?_
                                refine k_if_eqF (pc := 112) C 121 dX7_word_112 (by decide) (by decide) ?_
                                refine k_iinc_1 (pc := 115) (v := 32) C dX7_word_115 (by decide) rfl ?_
                                refine k_goto (pc := 118) C 106 dX7_word_118 (by decide) ?_
                                refine k_aload_n (pc := 106) C dX7_word_106 rfl ?_
                                refine k_getR (pc := 107) (r := some (8, 24, 0)) C fl_X7_75 k_in7 rfl rfl rfl dX7_word_107 ?_
                                refine k_iload_n (pc := 110) C dX7_word_110 rfl ?_
                                refine k_ialdX (pc := 111) (j := 32) C (by decide) (by decide +kernel) rfl (k_vd (by decide)) dX7_word_111 ?_
                                refine k_sx (x := 109) ((hw 32 (by decide)).trans rfl) ?_
                                refine k_if_eqF (pc := 112) C 121 dX7_word_112 (by decide) (by decide) ?_
                                refine k_iinc_1 (pc := 115) (v := 33) C dX7_word_115 (by decide) rfl ?_
                                refine k_goto (pc := 118) C 106 dX7_word_118 (by decide) ?_
                                refine k_aload_n (pc := 106) C dX7_word_106 rfl ?_
                                refine k_getR (pc := 107) (r := some (8, 24, 0)) C fl_X7_75 k_in7 rfl rfl rfl dX7_word_107 ?_
                                refine k_iload_n (pc := 110) C dX7_word_110 rfl ?_
                                refine k_ialdX (pc := 111) (j := 33) C (by decide) (by decide +kernel) rfl (k_vd (by decide)) dX7_word_111 ?_
                                refine k_sx (x := 101) ((hw 33 (by decide)).trans rfl) ?_
                                refine k_if_eqF (pc := 112) C 121 dX7_word_112 (by decide) (by decide) ?_
                                refine k_iinc_1 (pc := 115) (v := 34) C dX7_word_115 (by decide) rfl ?_
                                refine k_goto (pc := 118) C 106 dX7_word_118 (by decide) ?_
                                refine k_aload_n (pc := 106) C dX7_word_106 rfl ?_
                                refine k_getR (pc := 107) (r := some (8, 24, 0)) C fl_X7_75 k_in7 rfl rfl rfl dX7_word_107 ?_
                                refine k_iload_n (pc := 110) C dX7_word_110 rfl ?_
                                refine k_ialdX (pc := 111) (j := 34) C (by decide) (by decide +kernel) rfl (k_vd (by decide)) dX7_word_111 ?_
                                refine k_sx (x := 115) ((hw 34 (by decide)).trans rfl) ?_
                                refine k_if_eqF (pc := 112) C 121 dX7_word_112 (by decide) (by decide) ?_
                                refine k_iinc_1 (pc := 115) (v := 35) C dX7_word_115 (by decide) rfl ?_
                                refine k_goto (pc := 118) C 106 dX7_word_118 (by decide) ?_
                                refine k_aload_n (pc := 106) C dX7_word_106 rfl ?_
                                refine k_getR (pc := 107) (r := some (8, 24, 0)) C fl_X7_75 k_in7 rfl rfl rfl dX7_word_107 ?_
                                refine k_iload_n (pc := 110) C dX7_word_110 rfl ?_
                                refine k_ialdX (pc := 111) (j := 35) C (by decide) (by decide +kernel) rfl (k_vd (by decide)) dX7_word_111 ?_
                                refine k_sx (x := 32) ((hw 35 (by decide)).trans rfl) ?_
                                refine k_if_eqF (pc := 112) C 121 dX7_word_112 (by decide) (by decide) ?_
                                refine k_iinc_1 (pc := 115) (v := 36) C dX7_word_115 (by decide) rfl ?_
                                refine k_goto (pc := 118) C 106 dX7_word_118 (by decide) ?_
                                refine k_aload_n (pc := 106) C dX7_word_106 rfl ?_
                                refine k_getR (pc := 107) (r := some (8, 24, 0)) C fl_X7_75 k_in7 rfl rfl rfl dX7_word_107 ?_
                                refine k_iload_n (pc := 110) C dX7_word_110 rfl ?_
                                refine k_ialdX (pc := 111) (j := 36) C (by decide) (by decide +kernel) rfl (k_vd (by decide)) dX7_word_111 ?_
                                refine k_sx (x := 0) ((hw 36 (by decide)).trans rfl) ?_
                                refine k_if_eqT (pc := 112) C 121 dX7_word_112 (by decide) (by decide) ?_
                                refine k_iinc_1 (pc := 121) (v := 37) C dX7_word_121 (by decide) rfl ?_
                                refine k_iinc_3 (pc := 124) (v := 5) C dX7_word_124 (by decide) rfl ?_
                                refine k_goto (pc := 127) C 9 dX7_word_127 (by decide) ?_
                                refine k_iload_n (pc := 9) C dX7_word_9 rfl ?_
                                refine k_bipush (pc := 10) (v := 6) C dX7_word_10 (by decide) ?_
                                refine k_icmp_geF (pc := 12) C 130 dX7_word_12 (by decide) (by decide) ?_
                                refine k_aload_n (pc := 15) C dX7_word_15 rfl ?_
                                refine k_getI (pc := 16) C fl_X7_170 k_in7 rfl rfl dX7_word_16 ?_
                                refine k_istore_4 (pc := 19) C dX7_word_19 rfl ?_
                                refine k_iload_n (pc := 21) C dX7_word_21 rfl ?_
                                refine k_istore_5 (pc := 22) C dX7_word_22 rfl ?_
                                refine k_cast (L' := [vR (7, 0, 0), vI 37, vI (k_mx (k_mx (k_mx (k_mx (k_mx (mi (7, 0, 0) 29) ((mi (7, 0, 0) 29) + (nI (f_X7_wm mi ml 0 8 0)))) ((mi (7, 0, 0) 29) + (nI (f_X7_wm mi ml 9 7 0)))) ((mi (7, 0, 0) 29) + (nI (f_X7_wm mi ml 17 5 0)))) ((mi (7, 0, 0) 29) + (nI (f_X7_wm mi ml 23 6 0)))) ((mi (7, 0, 0) 29) + (nI (f_X7_wm mi ml 30 6 0)))), vI 5, vI ((mi (7, 0, 0) 29) + (nI 0)), vI (nI (37 + 0))]) (by rw [← k_q0] <;> rfl) rfl rfl ?_
                                by_cases hM5 : (f_X7_wm mi ml 37 5 0) = 5
                                · skip
                                  have hloop : ∀ (u j : Nat), j + u = 5 → f_X7_wm mi ml 37 u j = f_X7_wm mi ml 37 5 0 → k_V p l e (k_rm 0) s m args below meth c D cy ad bs k_KS k_R0 0 0 (k_End below D cy ad bs k_KS k_R0 (k_rt (some (vI (f_X7_word mi ml).1)) (f_X7_word mi ml).2 ml) args s) mi ml 24 [vR (7, 0, 0), vI 37, vI (k_mx (k_mx (k_mx (k_mx (k_mx (mi (7, 0, 0) 29) ((mi (7, 0, 0) 29) + (nI (f_X7_wm mi ml 0 8 0)))) ((mi (7, 0, 0) 29) + (nI (f_X7_wm mi ml 9 7 0)))) ((mi (7, 0, 0) 29) + (nI (f_X7_wm mi ml 17 5 0)))) ((mi (7, 0, 0) 29) + (nI (f_X7_wm mi ml 23 6 0)))) ((mi (7, 0, 0) 29) + (nI (f_X7_wm mi ml 30 6 0)))), vI 5, vI ((mi (7, 0, 0) 29) + (nI j)), vI (nI (37 + j))] [] := by
                                    intro u
                                    induction u with
                                    | zero =>
                                      intro j hju hres
                                      have hjn : j = 5 := (by omega)
                                      subst hjn
                                      refine k_cast (L' := [vR (7, 0, 0), vI 37, vI (k_mx (k_mx (k_mx (k_mx (k_mx (mi (7, 0, 0) 29) ((mi (7, 0, 0) 29) + (nI (f_X7_wm mi ml 0 8 0)))) ((mi (7, 0, 0) 29) + (nI (f_X7_wm mi ml 9 7 0)))) ((mi (7, 0, 0) 29) + (nI (f_X7_wm mi ml 17 5 0)))) ((mi (7, 0, 0) 29) + (nI (f_X7_wm mi ml 23 6 0)))) ((mi (7, 0, 0) 29) + (nI (f_X7_wm mi ml 30 6 0)))), vI 5, vI ((mi (7, 0, 0) 29) + (nI 5)), vI 42]) (by rfl) rfl rfl ?_
                                      refine k_aload_n (pc := 24) C dX7_word_24 rfl ?_
                                      refine k_getR (pc := 25) (r := some (8, 24, 0)) C fl_X7_75 k_in7 rfl rfl rfl dX7_word_25 ?_
                                      refine k_iload (pc := 28) C dX7_word_28 rfl ?_
                                      refine k_ialdX (pc := 30) (j := 42) C (by decide) (by decide +kernel) rfl (k_vd (by decide)) dX7_word_30 ?_
                                      refine k_sx (x := 0) ((hw 42 (by decide)).trans rfl) ?_
                                      refine k_if_eqT (pc := 31) C 75 dX7_word_31 (by decide) (by decide) ?_
                                      refine k_aload_n (pc := 75) C dX7_word_75 rfl ?_
                                      refine k_getR (pc := 76) (r := some (8, 24, 0)) C fl_X7_75 k_in7 rfl rfl rfl dX7_word_76 ?_
                                      refine k_iload (pc := 79) C dX7_word_79 rfl ?_
                                      refine k_ialdX (pc := 81) (j := 42) C (by decide) (by decide +kernel) rfl (k_vd (by decide)) dX7_word_81 ?_
                                      refine k_sx (x := 0) ((hw 42 (by decide)).trans rfl) ?_
                                      refine k_if_neF (pc := 82) C 93 dX7_word_82 (by decide) (by decide) ?_
                                      refine k_aload_n (pc := 85) C dX7_word_85 rfl ?_
                                      refine k_iload (pc := 86) C dX7_word_86 rfl ?_
                                      refine k_putI (pc := 88) C pl_X7_170 k_in7 rfl rfl dX7_word_88 ?_
                                      refine k_iload_n (pc := 91) C dX7_word_91 rfl ?_
                                      exact k_iret (pc := 92) C rfl  (k_fIm (by unfold f_X7_word; rw [if_neg hM0, if_neg hM1, if_neg hM2, if_neg hM3, if_neg hM4, if_pos hM5]; try rfl)) dX7_word_92
                                    | succ u ih =>
                                      intro j hju hres
                                      have hj : j < 5 := by omega
                                      have hkn : ¬ (k_wd (37 + j)) = 0 := (by decide : ∀ j, j < 5 → ¬ (k_wd (37 + j)) = 0) j hj
                                      refine k_aload_n (pc := 24) C dX7_word_24 rfl ?_
                                      refine k_getR (pc := 25) (r := some (8, 24, 0)) C fl_X7_75 k_in7 rfl rfl rfl dX7_word_25 ?_
                                      refine k_iload (pc := 28) C dX7_word_28 rfl ?_
                                      refine k_ialdX (pc := 30) (j := (37 + j)) C (nI_clamp (by omega)) (by decide +kernel) rfl (vp_in_nI (show _ < (43 : Nat) by omega) (show (43 : Nat) < 2 ^ 31 by decide)) dX7_word_30 ?_
                                      refine k_sx (x := k_wd (37 + j)) (hw (37 + j) (by omega)) ?_
                                      refine k_if_eqF (pc := 31) C 75 dX7_word_31 (by decide) hkn ?_
                                      refine k_iload (pc := 34) C dX7_word_34 rfl ?_
                                      refine k_aload_n (pc := 36) C dX7_word_36 rfl ?_
                                      refine k_getI (pc := 37) C fl_X7_173 k_in7 rfl rfl dX7_word_37 ?_
                                      refine k_icmp_ge (pc := 40) C 75 dX7_word_40 (by decide) (fun c40 => ?_) (fun c40 => ?_)
                                      · skip
                                        refine k_aload_n (pc := 75) C dX7_word_75 rfl ?_
                                        refine k_getR (pc := 76) (r := some (8, 24, 0)) C fl_X7_75 k_in7 rfl rfl rfl dX7_word_76 ?_
                                        refine k_iload (pc := 79) C dX7_word_79 rfl ?_
                                        refine k_ialdX (pc := 81) (j := (37 + j)) C (nI_clamp (by omega)) (by decide +kernel) rfl (vp_in_nI (show _ < (43 : Nat) by omega) (show (43 : Nat) < 2 ^ 31 by decide)) dX7_word_81 ?_
                                        refine k_sx (x := k_wd (37 + j)) (hw (37 + j) (by omega)) ?_
                                        refine k_if_neT (pc := 82) C 93 dX7_word_82 (by decide) hkn ?_
                                        have hrj : f_X7_wm mi ml 37 5 0 = j := by rw [← hres, f_X7_wm_s, if_pos c40]
                                        exact absurd (hrj.symm.trans hM5) (by omega)
                                      · skip
                                        refine k_aload_n (pc := 43) C dX7_word_43 rfl ?_
                                        refine k_getR (pc := 44) (r := some (9, 1, 0)) C fl_X7_68 k_in7 rfl rfl rfl dX7_word_44 ?_
                                        refine k_aload_n (pc := 47) C dX7_word_47 rfl ?_
                                        refine k_getI (pc := 48) C fl_X7_176 k_in7 rfl rfl dX7_word_48 ?_
                                        refine k_iload (pc := 51) C dX7_word_51 rfl ?_
                                        refine k_iadd (pc := 53) C dX7_word_53 ?_
                                        refine k_laldX (pc := 54) (j := ((mi (7, 0, 0) 28) + ((mi (7, 0, 0) 29) + (nI j))).toNatClampNeg) C rfl (by decide +kernel) rfl (k_cin2 hrd (show j < 1000 by omega) c40) dX7_word_54 ?_
                                        refine k_l2i (pc := 55) C dX7_word_55 ?_
                                        refine k_aload_n (pc := 56) C dX7_word_56 rfl ?_
                                        refine k_getR (pc := 57) (r := some (8, 24, 0)) C fl_X7_75 k_in7 rfl rfl rfl dX7_word_57 ?_
                                        refine k_iload (pc := 60) C dX7_word_60 rfl ?_
                                        refine k_ialdX (pc := 62) (j := (37 + j)) C (nI_clamp (by omega)) (by decide +kernel) rfl (vp_in_nI (show _ < (43 : Nat) by omega) (show (43 : Nat) < 2 ^ 31 by decide)) dX7_word_62 ?_
                                        refine k_sx (x := k_wd (37 + j)) (hw (37 + j) (by omega)) ?_
                                        refine k_icmp_ne (pc := 63) C 75 dX7_word_63 (by decide) (fun c63 => ?_) (fun c63 => ?_)
                                        · skip
                                          refine k_aload_n (pc := 75) C dX7_word_75 rfl ?_
                                          refine k_getR (pc := 76) (r := some (8, 24, 0)) C fl_X7_75 k_in7 rfl rfl rfl dX7_word_76 ?_
                                          refine k_iload (pc := 79) C dX7_word_79 rfl ?_
                                          refine k_ialdX (pc := 81) (j := (37 + j)) C (nI_clamp (by omega)) (by decide +kernel) rfl (vp_in_nI (show _ < (43 : Nat) by omega) (show (43 : Nat) < 2 ^ 31 by decide)) dX7_word_81 ?_
                                          refine k_sx (x := k_wd (37 + j)) (hw (37 + j) (by omega)) ?_
                                          refine k_if_neT (pc := 82) C 93 dX7_word_82 (by decide) hkn ?_
                                          have hrj : f_X7_wm mi ml 37 5 0 = j := by rw [← hres, f_X7_wm_s, if_neg c40, if_neg c63]
                                          exact absurd (hrj.symm.trans hM5) (by omega)
                                        · skip
                                          refine k_iinc_4 (pc := 66) (v := ((mi (7, 0, 0) 29) + (nI j)) + 1) C dX7_word_66 rfl rfl ?_
                                          refine k_iinc_5 (pc := 69) (v := nI ((37 + j) + 1)) C dX7_word_69 (k_inc (37 + j)) rfl ?_
                                          refine k_goto (pc := 72) C 24 dX7_word_72 (by decide) ?_
                                          exact k_cast (L' := [vR (7, 0, 0), vI 37, vI (k_mx (k_mx (k_mx (k_mx (k_mx (mi (7, 0, 0) 29) ((mi (7, 0, 0) 29) + (nI (f_X7_wm mi ml 0 8 0)))) ((mi (7, 0, 0) 29) + (nI (f_X7_wm mi ml 9 7 0)))) ((mi (7, 0, 0) 29) + (nI (f_X7_wm mi ml 17 5 0)))) ((mi (7, 0, 0) 29) + (nI (f_X7_wm mi ml 23 6 0)))) ((mi (7, 0, 0) 29) + (nI (f_X7_wm mi ml 30 6 0)))), vI 5, vI ((mi (7, 0, 0) 29) + (nI (j + 1))), vI (nI (37 + (j + 1)))]) (by rw [k_q1]; rfl) rfl rfl (ih (j + 1) (by omega) (by rw [← hres, f_X7_wm_s, if_neg c40, if_pos c63]))
                                  exact hloop 5 0 rfl rfl
                                · skip
                                  have hmiss5 : k_V p l e (k_rm 0) s m args below meth c D cy ad bs k_KS k_R0 0 0 (k_End below D cy ad bs k_KS k_R0 (k_rt (some (vI (f_X7_word mi ml).1)) (f_X7_word mi ml).2 ml) args s) mi ml 93 [vR (7, 0, 0), vI 37, vI (k_mx (k_mx (k_mx (k_mx (k_mx (mi (7, 0, 0) 29) ((mi (7, 0, 0) 29) + (nI (f_X7_wm mi ml 0 8 0)))) ((mi (7, 0, 0) 29) + (nI (f_X7_wm mi ml 9 7 0)))) ((mi (7, 0, 0) 29) + (nI (f_X7_wm mi ml 17 5 0)))) ((mi (7, 0, 0) 29) + (nI (f_X7_wm mi ml 23 6 0)))) ((mi (7, 0, 0) 29) + (nI (f_X7_wm mi ml 30 6 0)))), vI 5, vI ((mi (7, 0, 0) 29) + (nI (f_X7_wm mi ml 37 5 0))), vU] [] := by
                                    have hmx : k_V p l e (k_rm 0) s m args below meth c D cy ad bs k_KS k_R0 0 0 (k_End below D cy ad bs k_KS k_R0 (k_rt (some (vI (f_X7_word mi ml).1)) (f_X7_word mi ml).2 ml) args s) mi ml 105 [vR (7, 0, 0), vI 37, vI (k_mx (k_mx (k_mx (k_mx (k_mx (mi (7, 0, 0) 29) ((mi (7, 0, 0) 29) + (nI (f_X7_wm mi ml 0 8 0)))) ((mi (7, 0, 0) 29) + (nI (f_X7_wm mi ml 9 7 0)))) ((mi (7, 0, 0) 29) + (nI (f_X7_wm mi ml 17 5 0)))) ((mi (7, 0, 0) 29) + (nI (f_X7_wm mi ml 23 6 0)))) ((mi (7, 0, 0) 29) + (nI (f_X7_wm mi ml 30 6 0)))), vI 5, vU, vU] [vI (k_mx (k_mx (k_mx (k_mx (k_mx (k_mx (mi (7, 0, 0) 29) ((mi (7, 0, 0) 29) + (nI (f_X7_wm mi ml 0 8 0)))) ((mi (7, 0, 0) 29) + (nI (f_X7_wm mi ml 9 7 0)))) ((mi (7, 0, 0) 29) + (nI (f_X7_wm mi ml 17 5 0)))) ((mi (7, 0, 0) 29) + (nI (f_X7_wm mi ml 23 6 0)))) ((mi (7, 0, 0) 29) + (nI (f_X7_wm mi ml 30 6 0)))) ((mi (7, 0, 0) 29) + (nI (f_X7_wm mi ml 37 5 0))))] := by
                                      refine k_istore_2 (pc := 105) C dX7_word_105 rfl ?_
                                      refine k_aload_n (pc := 106) C dX7_word_106 rfl ?_
                                      refine k_getR (pc := 107) (r := some (8, 24, 0)) C fl_X7_75 k_in7 rfl rfl rfl dX7_word_107 ?_
                                      refine k_iload_n (pc := 110) C dX7_word_110 rfl ?_
                                      refine k_ialdX (pc := 111) (j := 37) C (by decide) (by decide +kernel) rfl (k_vd (by decide)) dX7_word_111 ?_
                                      refine k_sx (x := 112) ((hw 37 (by decide)).trans rfl) ?_
                                      refine k_if_eqF (pc := 112) C 121 dX7_word_112 (by decide) (by decide) ?_
                                      refine k_iinc_1 (pc := 115) (v := 38) C dX7_word_115 (by decide) rfl ?_
                                      refine k_goto (pc := 118) C 106 dX7_word_118 (by decide) ?_
                                      refine k_aload_n (pc := 106) C dX7_word_106 rfl ?_
                                      refine k_getR (pc := 107) (r := some (8, 24, 0)) C fl_X7_75 k_in7 rfl rfl rfl dX7_word_107 ?_
                                      refine k_iload_n (pc := 110) C dX7_word_110 rfl ?_
                                      refine k_ialdX (pc := 111) (j := 38) C (by decide) (by decide +kernel) rfl (k_vd (by decide)) dX7_word_111 ?_
                                      refine k_sx (x := 111) ((hw 38 (by decide)).trans rfl) ?_
                                      refine k_if_eqF (pc := 112) C 121 dX7_word_112 (by decide) (by decide) ?_
                                      refine k_iinc_1 (pc := 115) (v := 39) C dX7_word_115 (by decide) rfl ?_
                                      refine k_goto (pc := 118) C 106 dX7_word_118 (by decide) ?_
                                      refine k_aload_n (pc := 106) C dX7_word_106 rfl ?_
                                      refine k_getR (pc := 107) (r := some (8, 24, 0)) C fl_X7_75 k_in7 rfl rfl rfl dX7_word_107 ?_
                                      refine k_iload_n (pc := 110) C dX7_word_110 rfl ?_
                                      refine k_ialdX (pc := 111) (j := 39) C (by decide) (by decide +kernel) rfl (k_vd (by decide)) dX7_word_111 ?_
                                      refine k_sx (x := 115) ((hw 39 (by decide)).trans rfl) ?_
                                      refine k_if_eqF (pc := 112) C 121 dX7_word_112 (by decide) (by decide) ?_
                                      refine k_iinc_1 (pc := 115) (v := 40) C dX7_word_115 (by decide) rfl ?_
                                      refine k_goto (pc := 118) C 106 dX7_word_118 (by decide) ?_
                                      refine k_aload_n (pc := 106) C dX7_word_106 rfl ?_
                                      refine k_getR (pc := 107) (r := some (8, 24, 0)) C fl_X7_75 k_in7 rfl rfl rfl dX7_word_107 ?_
                                      refine k_iload_n (pc := 110) C dX7_word_110 rfl ?_
                                      refine k_ialdX (pc := 111) (j := 40) C (by decide) (by decide +kernel) rfl (k_vd (by decide)) dX7_word_111 ?_
                                      refine k_sx (x := 116) ((hw 40 (by decide)).trans rfl) ?_
                                      refine k_if_eqF (pc := 112) C 121 dX7_word_112 (by decide) (by decide) ?_
                                      refine k_iinc_1 (pc := 115) (v := 41) C dX7_word_115 (by decide) rfl ?_
                                      refine k_goto (pc := 118) C 106 dX7_word_118 (by decide) ?_
                                      refine k_aload_n (pc := 106) C dX7_word_106 rfl ?_
                                      refine k_getR (pc := 107) (r := some (8, 24, 0)) C fl_X7_75 k_in7 rfl rfl rfl dX7_word_107 ?_
                                      refine k_iload_n (pc := 110) C dX7_word_110 rfl ?_
                                      refine k_ialdX (pc := 111) (j := 41) C (by decide) (by decide +kernel) rfl (k_vd (by decide)) dX7_word_111 ?_
                                      refine k_sx (x := 32) ((hw 41 (by decide)).trans rfl) ?_
                                      refine k_if_eqF (pc := 112) C 121 dX7_word_112 (by decide) (by decide) ?_
                                      refine k_iinc_1 (pc := 115) (v := 42) C dX7_word_115 (by decide) rfl ?_
                                      refine k_goto (pc := 118) C 106 dX7_word_118 (by decide) ?_
                                      refine k_aload_n (pc := 106) C dX7_word_106 rfl ?_
                                      refine k_getR (pc := 107) (r := some (8, 24, 0)) C fl_X7_75 k_in7 rfl rfl rfl dX7_word_107 ?_
                                      refine k_iload_n (pc := 110) C dX7_word_110 rfl ?_
                                      refine k_ialdX (pc := 111) (j := 42) C (by decide) (by decide +kernel) rfl (k_vd (by decide)) dX7_word_111 ?_
                                      refine k_sx (x := 0) ((hw 42 (by decide)).trans rfl) ?_
                                      refine k_if_eqT (pc := 112) C 121 dX7_word_112 (by decide) (by decide) ?_
                                      refine k_iinc_1 (pc := 121) (v := 43) C dX7_word_121 (by decide) rfl ?_
                                      refine k_iinc_3 (pc := 124) (v := 6) C dX7_word_124 (by decide) rfl ?_
                                      refine k_goto (pc := 127) C 9 dX7_word_127 (by decide) ?_
                                      refine k_iload_n (pc := 9) C dX7_word_9 rfl ?_
                                      refine k_bipush (pc := 10) (v := 6) C dX7_word_10 (by decide) ?_
                                      refine k_icmp_geT (pc := 12) C 130 dX7_word_12 (by decide) (by decide) ?_
                                      refine k_aload_n (pc := 130) C dX7_word_130 rfl ?_
                                      refine k_iload_n (pc := 131) C dX7_word_131 rfl ?_
                                      refine k_putI (pc := 132) C pl_X7_167 k_in7 rfl rfl dX7_word_132 ?_
                                      refine k_iconst (pc := 135) (v := (-1)) C dX7_word_135 (by decide) ?_
                                      exact k_iret (pc := 136) C rfl  (k_fIm (by unfold f_X7_word; rw [if_neg hM0, if_neg hM1, if_neg hM2, if_neg hM3, if_neg hM4, if_neg hM5]; try rfl)) dX7_word_136
                                    refine k_iload (pc := 93) C dX7_word_93 rfl ?_
                                    refine k_iload_n (pc := 95) C dX7_word_95 rfl ?_
                                    refine k_icmp_le (pc := 96) C 104 dX7_word_96 (by decide) (fun c96 => ?_) (fun c96 => ?_)
                                    · skip
                                      refine k_iload_n (pc := 104) C dX7_word_104 rfl ?_
                                      refine k_castS (st' := [vI (k_mx (k_mx (k_mx (k_mx (k_mx (k_mx (mi (7, 0, 0) 29) ((mi (7, 0, 0) 29) + (nI (f_X7_wm mi ml 0 8 0)))) ((mi (7, 0, 0) 29) + (nI (f_X7_wm mi ml 9 7 0)))) ((mi (7, 0, 0) 29) + (nI (f_X7_wm mi ml 17 5 0)))) ((mi (7, 0, 0) 29) + (nI (f_X7_wm mi ml 23 6 0)))) ((mi (7, 0, 0) 29) + (nI (f_X7_wm mi ml 30 6 0)))) ((mi (7, 0, 0) 29) + (nI (f_X7_wm mi ml 37 5 0))))]) (by rw [k_mxle c96]) ?_
                                      refine k_drop_4 ?_
                                      exact hmx
                                    · skip
                                      refine k_iload (pc := 99) C dX7_word_99 rfl ?_
                                      refine k_goto (pc := 101) C 105 dX7_word_101 (by decide) ?_
                                      refine k_castS (st' := [vI (k_mx (k_mx (k_mx (k_mx (k_mx (k_mx (mi (7, 0, 0) 29) ((mi (7, 0, 0) 29) + (nI (f_X7_wm mi ml 0 8 0)))) ((mi (7, 0, 0) 29) + (nI (f_X7_wm mi ml 9 7 0)))) ((mi (7, 0, 0) 29) + (nI (f_X7_wm mi ml 17 5 0)))) ((mi (7, 0, 0) 29) + (nI (f_X7_wm mi ml 23 6 0)))) ((mi (7, 0, 0) 29) + (nI (f_X7_wm mi ml 30 6 0)))) ((mi (7, 0, 0) 29) + (nI (f_X7_wm mi ml 37 5 0))))]) (by rw [k_mxgt c96]) ?_
                                      refine k_drop_4 ?_
                                      exact hmx
                                  have hloop : ∀ (u j : Nat), j + u = 5 → f_X7_wm mi ml 37 u j = f_X7_wm mi ml 37 5 0 → k_V p l e (k_rm 0) s m args below meth c D cy ad bs k_KS k_R0 0 0 (k_End below D cy ad bs k_KS k_R0 (k_rt (some (vI (f_X7_word mi ml).1)) (f_X7_word mi ml).2 ml) args s) mi ml 24 [vR (7, 0, 0), vI 37, vI (k_mx (k_mx (k_mx (k_mx (k_mx (mi (7, 0, 0) 29) ((mi (7, 0, 0) 29) + (nI (f_X7_wm mi ml 0 8 0)))) ((mi (7, 0, 0) 29) + (nI (f_X7_wm mi ml 9 7 0)))) ((mi (7, 0, 0) 29) + (nI (f_X7_wm mi ml 17 5 0)))) ((mi (7, 0, 0) 29) + (nI (f_X7_wm mi ml 23 6 0)))) ((mi (7, 0, 0) 29) + (nI (f_X7_wm mi ml 30 6 0)))), vI 5, vI ((mi (7, 0, 0) 29) + (nI j)), vI (nI (37 + j))] [] := by
                                    intro u
                                    induction u with
                                    | zero =>
                                      intro j hju hres
                                      exact absurd (hres.symm.trans (show j = 5 by omega)) hM5
                                    | succ u ih =>
                                      intro j hju hres
                                      have hj : j < 5 := by omega
                                      have hkn : ¬ (k_wd (37 + j)) = 0 := (by decide : ∀ j, j < 5 → ¬ (k_wd (37 + j)) = 0) j hj
                                      refine k_aload_n (pc := 24) C dX7_word_24 rfl ?_
                                      refine k_getR (pc := 25) (r := some (8, 24, 0)) C fl_X7_75 k_in7 rfl rfl rfl dX7_word_25 ?_
                                      refine k_iload (pc := 28) C dX7_word_28 rfl ?_
                                      refine k_ialdX (pc := 30) (j := (37 + j)) C (nI_clamp (by omega)) (by decide +kernel) rfl (vp_in_nI (show _ < (43 : Nat) by omega) (show (43 : Nat) < 2 ^ 31 by decide)) dX7_word_30 ?_
                                      refine k_sx (x := k_wd (37 + j)) (hw (37 + j) (by omega)) ?_
                                      refine k_if_eqF (pc := 31) C 75 dX7_word_31 (by decide) hkn ?_
                                      refine k_iload (pc := 34) C dX7_word_34 rfl ?_
                                      refine k_aload_n (pc := 36) C dX7_word_36 rfl ?_
                                      refine k_getI (pc := 37) C fl_X7_173 k_in7 rfl rfl dX7_word_37 ?_
                                      refine k_icmp_ge (pc := 40) C 75 dX7_word_40 (by decide) (fun c40 => ?_) (fun c40 => ?_)
                                      · skip
                                        refine k_aload_n (pc := 75) C dX7_word_75 rfl ?_
                                        refine k_getR (pc := 76) (r := some (8, 24, 0)) C fl_X7_75 k_in7 rfl rfl rfl dX7_word_76 ?_
                                        refine k_iload (pc := 79) C dX7_word_79 rfl ?_
                                        refine k_ialdX (pc := 81) (j := (37 + j)) C (nI_clamp (by omega)) (by decide +kernel) rfl (vp_in_nI (show _ < (43 : Nat) by omega) (show (43 : Nat) < 2 ^ 31 by decide)) dX7_word_81 ?_
                                        refine k_sx (x := k_wd (37 + j)) (hw (37 + j) (by omega)) ?_
                                        refine k_if_neT (pc := 82) C 93 dX7_word_82 (by decide) hkn ?_
                                        have hrj : f_X7_wm mi ml 37 5 0 = j := by rw [← hres, f_X7_wm_s, if_pos c40]
                                        refine k_drop_5 ?_
                                        rw [hrj] at hmiss5
                                        exact hmiss5
                                      · skip
                                        refine k_aload_n (pc := 43) C dX7_word_43 rfl ?_
                                        refine k_getR (pc := 44) (r := some (9, 1, 0)) C fl_X7_68 k_in7 rfl rfl rfl dX7_word_44 ?_
                                        refine k_aload_n (pc := 47) C dX7_word_47 rfl ?_
                                        refine k_getI (pc := 48) C fl_X7_176 k_in7 rfl rfl dX7_word_48 ?_
                                        refine k_iload (pc := 51) C dX7_word_51 rfl ?_
                                        refine k_iadd (pc := 53) C dX7_word_53 ?_
                                        refine k_laldX (pc := 54) (j := ((mi (7, 0, 0) 28) + ((mi (7, 0, 0) 29) + (nI j))).toNatClampNeg) C rfl (by decide +kernel) rfl (k_cin2 hrd (show j < 1000 by omega) c40) dX7_word_54 ?_
                                        refine k_l2i (pc := 55) C dX7_word_55 ?_
                                        refine k_aload_n (pc := 56) C dX7_word_56 rfl ?_
                                        refine k_getR (pc := 57) (r := some (8, 24, 0)) C fl_X7_75 k_in7 rfl rfl rfl dX7_word_57 ?_
                                        refine k_iload (pc := 60) C dX7_word_60 rfl ?_
                                        refine k_ialdX (pc := 62) (j := (37 + j)) C (nI_clamp (by omega)) (by decide +kernel) rfl (vp_in_nI (show _ < (43 : Nat) by omega) (show (43 : Nat) < 2 ^ 31 by decide)) dX7_word_62 ?_
                                        refine k_sx (x := k_wd (37 + j)) (hw (37 + j) (by omega)) ?_
                                        refine k_icmp_ne (pc := 63) C 75 dX7_word_63 (by decide) (fun c63 => ?_) (fun c63 => ?_)
                                        · skip
                                          refine k_aload_n (pc := 75) C dX7_word_75 rfl ?_
                                          refine k_getR (pc := 76) (r := some (8, 24, 0)) C fl_X7_75 k_in7 rfl rfl rfl dX7_word_76 ?_
                                          refine k_iload (pc := 79) C dX7_word_79 rfl ?_
                                          refine k_ialdX (pc := 81) (j := (37 + j)) C (nI_clamp (by omega)) (by decide +kernel) rfl (vp_in_nI (show _ < (43 : Nat) by omega) (show (43 : Nat) < 2 ^ 31 by decide)) dX7_word_81 ?_
                                          refine k_sx (x := k_wd (37 + j)) (hw (37 + j) (by omega)) ?_
                                          refine k_if_neT (pc := 82) C 93 dX7_word_82 (by decide) hkn ?_
                                          have hrj : f_X7_wm mi ml 37 5 0 = j := by rw [← hres, f_X7_wm_s, if_neg c40, if_neg c63]
                                          refine k_drop_5 ?_
                                          rw [hrj] at hmiss5
                                          exact hmiss5
                                        · skip
                                          refine k_iinc_4 (pc := 66) (v := ((mi (7, 0, 0) 29) + (nI j)) + 1) C dX7_word_66 rfl rfl ?_
                                          refine k_iinc_5 (pc := 69) (v := nI ((37 + j) + 1)) C dX7_word_69 (k_inc (37 + j)) rfl ?_
                                          refine k_goto (pc := 72) C 24 dX7_word_72 (by decide) ?_
                                          exact k_cast (L' := [vR (7, 0, 0), vI 37, vI (k_mx (k_mx (k_mx (k_mx (k_mx (mi (7, 0, 0) 29) ((mi (7, 0, 0) 29) + (nI (f_X7_wm mi ml 0 8 0)))) ((mi (7, 0, 0) 29) + (nI (f_X7_wm mi ml 9 7 0)))) ((mi (7, 0, 0) 29) + (nI (f_X7_wm mi ml 17 5 0)))) ((mi (7, 0, 0) 29) + (nI (f_X7_wm mi ml 23 6 0)))) ((mi (7, 0, 0) 29) + (nI (f_X7_wm mi ml 30 6 0)))), vI 5, vI ((mi (7, 0, 0) 29) + (nI (j + 1))), vI (nI (37 + (j + 1)))]) (by rw [k_q1]; rfl) rfl rfl (ih (j + 1) (by omega) (by rw [← hres, f_X7_wm_s, if_neg c40, if_pos c63]))
                                  exact hloop 5 0 rfl rfl
                              refine k_iload (pc := 93) C dX7_word_93 rfl ?_
                              refine k_iload_n (pc := 95) C dX7_word_95 rfl ?_
                              refine k_icmp_le (pc := 96) C 104 dX7_word_96 (by decide) (fun c96 => ?_) (fun c96 => ?_)
                              · skip
                                refine k_iload_n (pc := 104) C dX7_word_104 rfl ?_
                                refine k_castS (st' := [vI (k_mx (k_mx (k_mx (k_mx (k_mx (mi (7, 0, 0) 29) ((mi (7, 0, 0) 29) + (nI (f_X7_wm mi ml 0 8 0)))) ((mi (7, 0, 0) 29) + (nI (f_X7_wm mi ml 9 7 0)))) ((mi (7, 0, 0) 29) + (nI (f_X7_wm mi ml 17 5 0)))) ((mi (7, 0, 0) 29) + (nI (f_X7_wm mi ml 23 6 0)))) ((mi (7, 0, 0) 29) + (nI (f_X7_wm mi ml 30 6 0))))]) (by rw [k_mxle c96]) ?_
                                refine k_drop_4 ?_
                                exact hmx
                              · skip
                                refine k_iload (pc := 99) C dX7_word_99 rfl ?_
                                refine k_goto (pc := 101) C 105 dX7_word_101 (by decide) ?_
                                refine k_castS (st' := [vI (k_mx (k_mx (k_mx (k_mx (k_mx (mi (7, 0, 0) 29) ((mi (7, 0, 0) 29) + (nI (f_X7_wm mi ml 0 8 0)))) ((mi (7, 0, 0) 29) + (nI (f_X7_wm mi ml 9 7 0)))) ((mi (7, 0, 0) 29) + (nI (f_X7_wm mi ml 17 5 0)))) ((mi (7, 0, 0) 29) + (nI (f_X7_wm mi ml 23 6 0)))) ((mi (7, 0, 0) 29) + (nI (f_X7_wm mi ml 30 6 0))))]) (by rw [k_mxgt c96]) ?_
                                refine k_drop_4 ?_
                                exact hmx
                            have hloop : ∀ (u j : Nat), j + u = 6 → f_X7_wm mi ml 30 u j = f_X7_wm mi ml 30 6 0 → k_V p l e (k_rm 0) s m args below meth c D cy ad bs k_KS k_R0 0 0 (k_End below D cy ad bs k_KS k_R0 (k_rt (some (vI (f_X7_word mi ml).1)) (f_X7_word mi ml).2 ml) args s) mi ml 24 [vR (7, 0, 0), vI 30, vI (k_mx (k_mx (k_mx (k_mx (mi (7, 0, 0) 29) ((mi (7, 0, 0) 29) + (nI (f_X7_wm mi ml 0 8 0)))) ((mi (7, 0, 0) 29) + (nI (f_X7_wm mi ml 9 7 0)))) ((mi (7, 0, 0) 29) + (nI (f_X7_wm mi ml 17 5 0)))) ((mi (7, 0, 0) 29) + (nI (f_X7_wm mi ml 23 6 0)))), vI 4, vI ((mi (7, 0, 0) 29) + (nI j)), vI (nI (30 + j))] [] := by
                              intro u
                              induction u with
                              | zero =>
                                intro j hju hres
                                exact absurd (hres.symm.trans (show j = 6 by omega)) hM4
                              | succ u ih =>
                                intro j hju hres
                                have hj : j < 6 := by omega
                                have hkn : ¬ (k_wd (30 + j)) = 0 := (by decide : ∀ j, j < 6 → ¬ (k_wd (30 + j)) = 0) j hj
                                refine k_aload_n (pc := 24) C dX7_word_24 rfl ?_
                                refine k_getR (pc := 25) (r := some (8, 24, 0)) C fl_X7_75 k_in7 rfl rfl rfl dX7_word_25 ?_
                                refine k_iload (pc := 28) C dX7_word_28 rfl ?_
                                refine k_ialdX (pc := 30) (j := (30 + j)) C (nI_clamp (by omega)) (by decide +kernel) rfl (vp_in_nI (show _ < (43 : Nat) by omega) (show (43 : Nat) < 2 ^ 31 by decide)) dX7_word_30 ?_
                                refine k_sx (x := k_wd (30 + j)) (hw (30 + j) (by omega)) ?_
                                refine k_if_eqF (pc := 31) C 75 dX7_word_31 (by decide) hkn ?_
                                refine k_iload (pc := 34) C dX7_word_34 rfl ?_
                                refine k_aload_n (pc := 36) C dX7_word_36 rfl ?_
                                refine k_getI (pc := 37) C fl_X7_173 k_in7 rfl rfl dX7_word_37 ?_
                                refine k_icmp_ge (pc := 40) C 75 dX7_word_40 (by decide) (fun c40 => ?_) (fun c40 => ?_)
                                · skip
                                  refine k_aload_n (pc := 75) C dX7_word_75 rfl ?_
                                  refine k_getR (pc := 76) (r := some (8, 24, 0)) C fl_X7_75 k_in7 rfl rfl rfl dX7_word_76 ?_
                                  refine k_iload (pc := 79) C dX7_word_79 rfl ?_
                                  refine k_ialdX (pc := 81) (j := (30 + j)) C (nI_clamp (by omega)) (by decide +kernel) rfl (vp_in_nI (show _ < (43 : Nat) by omega) (show (43 : Nat) < 2 ^ 31 by decide)) dX7_word_81 ?_
                                  refine k_sx (x := k_wd (30 + j)) (hw (30 + j) (by omega)) ?_
                                  refine k_if_neT (pc := 82) C 93 dX7_word_82 (by decide) hkn ?_
                                  have hrj : f_X7_wm mi ml 30 6 0 = j := by rw [← hres, f_X7_wm_s, if_pos c40]
                                  refine k_drop_5 ?_
                                  rw [hrj] at hmiss4
                                  exact hmiss4
                                · skip
                                  refine k_aload_n (pc := 43) C dX7_word_43 rfl ?_
                                  refine k_getR (pc := 44) (r := some (9, 1, 0)) C fl_X7_68 k_in7 rfl rfl rfl dX7_word_44 ?_
                                  refine k_aload_n (pc := 47) C dX7_word_47 rfl ?_
                                  refine k_getI (pc := 48) C fl_X7_176 k_in7 rfl rfl dX7_word_48 ?_
                                  refine k_iload (pc := 51) C dX7_word_51 rfl ?_
                                  refine k_iadd (pc := 53) C dX7_word_53 ?_
                                  refine k_laldX (pc := 54) (j := ((mi (7, 0, 0) 28) + ((mi (7, 0, 0) 29) + (nI j))).toNatClampNeg) C rfl (by decide +kernel) rfl (k_cin2 hrd (show j < 1000 by omega) c40) dX7_word_54 ?_
                                  refine k_l2i (pc := 55) C dX7_word_55 ?_
                                  refine k_aload_n (pc := 56) C dX7_word_56 rfl ?_
                                  refine k_getR (pc := 57) (r := some (8, 24, 0)) C fl_X7_75 k_in7 rfl rfl rfl dX7_word_57 ?_
                                  refine k_iload (pc := 60) C dX7_word_60 rfl ?_
                                  refine k_ialdX (pc := 62) (j := (30 + j)) C (nI_clamp (by omega)) (by decide +kernel) rfl (vp_in_nI (show _ < (43 : Nat) by omega) (show (43 : Nat) < 2 ^ 31 by decide)) dX7_word_62 ?_
                                  refine k_sx (x := k_wd (30 + j)) (hw (30 + j) (by omega)) ?_
                                  refine k_icmp_ne (pc := 63) C 75 dX7_word_63 (by decide) (fun c63 => ?_) (fun c63 => ?_)
                                  · skip
                                    refine k_aload_n (pc := 75) C dX7_word_75 rfl ?_
                                    refine k_getR (pc := 76) (r := some (8, 24, 0)) C fl_X7_75 k_in7 rfl rfl rfl dX7_word_76 ?_
                                    refine k_iload (pc := 79) C dX7_word_79 rfl ?_
                                    refine k_ialdX (pc := 81) (j := (30 + j)) C (nI_clamp (by omega)) (by decide +kernel) rfl (vp_in_nI (show _ < (43 : Nat) by omega) (show (43 : Nat) < 2 ^ 31 by decide)) dX7_word_81 ?_
                                    refine k_sx (x := k_wd (30 + j)) (hw (30 + j) (by omega)) ?_
                                    refine k_if_neT (pc := 82) C 93 dX7_word_82 (by decide) hkn ?_
                                    have hrj : f_X7_wm mi ml 30 6 0 = j := by rw [← hres, f_X7_wm_s, if_neg c40, if_neg c63]
                                    refine k_drop_5 ?_
                                    rw [hrj] at hmiss4
                                    exact hmiss4
                                  · skip
                                    refine k_iinc_4 (pc := 66) (v := ((mi (7, 0, 0) 29) + (nI j)) + 1) C dX7_word_66 rfl rfl ?_
                                    refine k_iinc_5 (pc := 69) (v := nI ((30 + j) + 1)) C dX7_word_69 (k_inc (30 + j)) rfl ?_
                                    refine k_goto (pc := 72) C 24 dX7_word_72 (by decide) ?_
                                    exact k_cast (L' := [vR (7, 0, 0), vI 30, vI (k_mx (k_mx (k_mx (k_mx (mi (7, 0, 0) 29) ((mi (7, 0, 0) 29) + (nI (f_X7_wm mi ml 0 8 0)))) ((mi (7, 0, 0) 29) + (nI (f_X7_wm mi ml 9 7 0)))) ((mi (7, 0, 0) 29) + (nI (f_X7_wm mi ml 17 5 0)))) ((mi (7, 0, 0) 29) + (nI (f_X7_wm mi ml 23 6 0)))), vI 4, vI ((mi (7, 0, 0) 29) + (nI (j + 1))), vI (nI (30 + (j + 1)))]) (by rw [k_q1]; rfl) rfl rfl (ih (j + 1) (by omega) (by rw [← hres, f_X7_wm_s, if_neg c40, if_pos c63]))
                            exact hloop 6 0 rfl rfl
                        refine k_iload (pc := 93) C dX7_word_93 rfl ?_
                        refine k_iload_n (pc := 95) C dX7_word_95 rfl ?_
                        refine k_icmp_le (pc := 96) C 104 dX7_word_96 (by decide) (fun c96 => ?_) (fun c96 => ?_)
                        · skip
                          refine k_iload_n (pc := 104) C dX7_word_104 rfl ?_
                          refine k_castS (st' := [vI (k_mx (k_mx (k_mx (k_mx (mi (7, 0, 0) 29) ((mi (7, 0, 0) 29) + (nI (f_X7_wm mi ml 0 8 0)))) ((mi (7, 0, 0) 29) + (nI (f_X7_wm mi ml 9 7 0)))) ((mi (7, 0, 0) 29) + (nI (f_X7_wm mi ml 17 5 0)))) ((mi (7, 0, 0) 29) + (nI (f_X7_wm mi ml 23 6 0))))]) (by rw [k_mxle c96]) ?_
                          refine k_drop_4 ?_
                          exact hmx
                        · skip
                          refine k_iload (pc := 99) C dX7_word_99 rfl ?_
                          refine k_goto (pc := 101) C 105 dX7_word_101 (by decide) ?_
                          refine k_castS (st' := [vI (k_mx (k_mx (k_mx (k_mx (mi (7, 0, 0) 29) ((mi (7, 0, 0) 29) + (nI (f_X7_wm mi ml 0 8 0)))) ((mi (7, 0, 0) 29) + (nI (f_X7_wm mi ml 9 7 0)))) ((mi (7, 0, 0) 29) + (nI (f_X7_wm mi ml 17 5 0)))) ((mi (7, 0, 0) 29) + (nI (f_X7_wm mi ml 23 6 0))))]) (by rw [k_mxgt c96]) ?_
                          refine k_drop_4 ?_
                          exact hmx
                      have hloop : ∀ (u j : Nat), j + u = 6 → f_X7_wm mi ml 23 u j = f_X7_wm mi ml 23 6 0 → k_V p l e (k_rm 0) s m args below meth c D cy ad bs k_KS k_R0 0 0 (k_End below D cy ad bs k_KS k_R0 (k_rt (some (vI (f_X7_word mi ml).1)) (f_X7_word mi ml).2 ml) args s) mi ml 24 [vR (7, 0, 0), vI 23, vI (k_mx (k_mx (k_mx (mi (7, 0, 0) 29) ((mi (7, 0, 0) 29) + (nI (f_X7_wm mi ml 0 8 0)))) ((mi (7, 0, 0) 29) + (nI (f_X7_wm mi ml 9 7 0)))) ((mi (7, 0, 0) 29) + (nI (f_X7_wm mi ml 17 5 0)))), vI 3, vI ((mi (7, 0, 0) 29) + (nI j)), vI (nI (23 + j))] [] := by
                        intro u
                        induction u with
                        | zero =>
                          intro j hju hres
                          exact absurd (hres.symm.trans (show j = 6 by omega)) hM3
                        | succ u ih =>
                          intro j hju hres
                          have hj : j < 6 := by omega
                          have hkn : ¬ (k_wd (23 + j)) = 0 := (by decide : ∀ j, j < 6 → ¬ (k_wd (23 + j)) = 0) j hj
                          refine k_aload_n (pc := 24) C dX7_word_24 rfl ?_
                          refine k_getR (pc := 25) (r := some (8, 24, 0)) C fl_X7_75 k_in7 rfl rfl rfl dX7_word_25 ?_
                          refine k_iload (pc := 28) C dX7_word_28 rfl ?_
                          refine k_ialdX (pc := 30) (j := (23 + j)) C (nI_clamp (by omega)) (by decide +kernel) rfl (vp_in_nI (show _ < (43 : Nat) by omega) (show (43 : Nat) < 2 ^ 31 by decide)) dX7_word_30 ?_
                          refine k_sx (x := k_wd (23 + j)) (hw (23 + j) (by omega)) ?_
                          refine k_if_eqF (pc := 31) C 75 dX7_word_31 (by decide) hkn ?_
                          refine k_iload (pc := 34) C dX7_word_34 rfl ?_
                          refine k_aload_n (pc := 36) C dX7_word_36 rfl ?_
                          refine k_getI (pc := 37) C fl_X7_173 k_in7 rfl rfl dX7_word_37 ?_
                          refine k_icmp_ge (pc := 40) C 75 dX7_word_40 (by decide) (fun c40 => ?_) (fun c40 => ?_)
                          · skip
                            refine k_aload_n (pc := 75) C dX7_word_75 rfl ?_
                            refine k_getR (pc := 76) (r := some (8, 24, 0)) C fl_X7_75 k_in7 rfl rfl rfl dX7_word_76 ?_
                            refine k_iload (pc := 79) C dX7_word_79 rfl ?_
                            refine k_ialdX (pc := 81) (j := (23 + j)) C (nI_clamp (by omega)) (by decide +kernel) rfl (vp_in_nI (show _ < (43 : Nat) by omega) (show (43 : Nat) < 2 ^ 31 by decide)) dX7_word_81 ?_
                            refine k_sx (x := k_wd (23 + j)) (hw (23 + j) (by omega)) ?_
                            refine k_if_neT (pc := 82) C 93 dX7_word_82 (by decide) hkn ?_
                            have hrj : f_X7_wm mi ml 23 6 0 = j := by rw [← hres, f_X7_wm_s, if_pos c40]
                            refine k_drop_5 ?_
                            rw [hrj] at hmiss3
                            exact hmiss3
                          · skip
                            refine k_aload_n (pc := 43) C dX7_word_43 rfl ?_
                            refine k_getR (pc := 44) (r := some (9, 1, 0)) C fl_X7_68 k_in7 rfl rfl rfl dX7_word_44 ?_
                            refine k_aload_n (pc := 47) C dX7_word_47 rfl ?_
                            refine k_getI (pc := 48) C fl_X7_176 k_in7 rfl rfl dX7_word_48 ?_
                            refine k_iload (pc := 51) C dX7_word_51 rfl ?_
                            refine k_iadd (pc := 53) C dX7_word_53 ?_
                            refine k_laldX (pc := 54) (j := ((mi (7, 0, 0) 28) + ((mi (7, 0, 0) 29) + (nI j))).toNatClampNeg) C rfl (by decide +kernel) rfl (k_cin2 hrd (show j < 1000 by omega) c40) dX7_word_54 ?_
                            refine k_l2i (pc := 55) C dX7_word_55 ?_
                            refine k_aload_n (pc := 56) C dX7_word_56 rfl ?_
                            refine k_getR (pc := 57) (r := some (8, 24, 0)) C fl_X7_75 k_in7 rfl rfl rfl dX7_word_57 ?_
                            refine k_iload (pc := 60) C dX7_word_60 rfl ?_
                            refine k_ialdX (pc := 62) (j := (23 + j)) C (nI_clamp (by omega)) (by decide +kernel) rfl (vp_in_nI (show _ < (43 : Nat) by omega) (show (43 : Nat) < 2 ^ 31 by decide)) dX7_word_62 ?_
                            refine k_sx (x := k_wd (23 + j)) (hw (23 + j) (by omega)) ?_
                            refine k_icmp_ne (pc := 63) C 75 dX7_word_63 (by decide) (fun c63 => ?_) (fun c63 => ?_)
                            · skip
                              refine k_aload_n (pc := 75) C dX7_word_75 rfl ?_
                              refine k_getR (pc := 76) (r := some (8, 24, 0)) C fl_X7_75 k_in7 rfl rfl rfl dX7_word_76 ?_
                              refine k_iload (pc := 79) C dX7_word_79 rfl ?_
                              refine k_ialdX (pc := 81) (j := (23 + j)) C (nI_clamp (by omega)) (by decide +kernel) rfl (vp_in_nI (show _ < (43 : Nat) by omega) (show (43 : Nat) < 2 ^ 31 by decide)) dX7_word_81 ?_
                              refine k_sx (x := k_wd (23 + j)) (hw (23 + j) (by omega)) ?_
                              refine k_if_neT (pc := 82) C 93 dX7_word_82 (by decide) hkn ?_
                              have hrj : f_X7_wm mi ml 23 6 0 = j := by rw [← hres, f_X7_wm_s, if_neg c40, if_neg c63]
                              refine k_drop_5 ?_
                              rw [hrj] at hmiss3
                              exact hmiss3
                            · skip
                              refine k_iinc_4 (pc := 66) (v := ((mi (7, 0, 0) 29) + (nI j)) + 1) C dX7_word_66 rfl rfl ?_
                              refine k_iinc_5 (pc := 69) (v := nI ((23 + j) + 1)) C dX7_word_69 (k_inc (23 + j)) rfl ?_
                              refine k_goto (pc := 72) C 24 dX7_word_72 (by decide) ?_
                              exact k_cast (L' := [vR (7, 0, 0), vI 23, vI (k_mx (k_mx (k_mx (mi (7, 0, 0) 29) ((mi (7, 0, 0) 29) + (nI (f_X7_wm mi ml 0 8 0)))) ((mi (7, 0, 0) 29) + (nI (f_X7_wm mi ml 9 7 0)))) ((mi (7, 0, 0) 29) + (nI (f_X7_wm mi ml 17 5 0)))), vI 3, vI ((mi (7, 0, 0) 29) + (nI (j + 1))), vI (nI (23 + (j + 1)))]) (by rw [k_q1]; rfl) rfl rfl (ih (j + 1) (by omega) (by rw [← hres, f_X7_wm_s, if_neg c40, if_pos c63]))
                      exact hloop 6 0 rfl rfl
                  refine k_iload (pc := 93) C dX7_word_93 rfl ?_
                  refine k_iload_n (pc := 95) C dX7_word_95 rfl ?_
                  refine k_icmp_le (pc := 96) C 104 dX7_word_96 (by decide) (fun c96 => ?_) (fun c96 => ?_)
                  · skip
                    refine k_iload_n (pc := 104) C dX7_word_104 rfl ?_
                    refine k_castS (st' := [vI (k_mx (k_mx (k_mx (mi (7, 0, 0) 29) ((mi (7, 0, 0) 29) + (nI (f_X7_wm mi ml 0 8 0)))) ((mi (7, 0, 0) 29) + (nI (f_X7_wm mi ml 9 7 0)))) ((mi (7, 0, 0) 29) + (nI (f_X7_wm mi ml 17 5 0))))]) (by rw [k_mxle c96]) ?_
                    refine k_drop_4 ?_
                    exact hmx
                  · skip
                    refine k_iload (pc := 99) C dX7_word_99 rfl ?_
                    refine k_goto (pc := 101) C 105 dX7_word_101 (by decide) ?_
                    refine k_castS (st' := [vI (k_mx (k_mx (k_mx (mi (7, 0, 0) 29) ((mi (7, 0, 0) 29) + (nI (f_X7_wm mi ml 0 8 0)))) ((mi (7, 0, 0) 29) + (nI (f_X7_wm mi ml 9 7 0)))) ((mi (7, 0, 0) 29) + (nI (f_X7_wm mi ml 17 5 0))))]) (by rw [k_mxgt c96]) ?_
                    refine k_drop_4 ?_
                    exact hmx
                have hloop : ∀ (u j : Nat), j + u = 5 → f_X7_wm mi ml 17 u j = f_X7_wm mi ml 17 5 0 → k_V p l e (k_rm 0) s m args below meth c D cy ad bs k_KS k_R0 0 0 (k_End below D cy ad bs k_KS k_R0 (k_rt (some (vI (f_X7_word mi ml).1)) (f_X7_word mi ml).2 ml) args s) mi ml 24 [vR (7, 0, 0), vI 17, vI (k_mx (k_mx (mi (7, 0, 0) 29) ((mi (7, 0, 0) 29) + (nI (f_X7_wm mi ml 0 8 0)))) ((mi (7, 0, 0) 29) + (nI (f_X7_wm mi ml 9 7 0)))), vI 2, vI ((mi (7, 0, 0) 29) + (nI j)), vI (nI (17 + j))] [] := by
                  intro u
                  induction u with
                  | zero =>
                    intro j hju hres
                    exact absurd (hres.symm.trans (show j = 5 by omega)) hM2
                  | succ u ih =>
                    intro j hju hres
                    have hj : j < 5 := by omega
                    have hkn : ¬ (k_wd (17 + j)) = 0 := (by decide : ∀ j, j < 5 → ¬ (k_wd (17 + j)) = 0) j hj
                    refine k_aload_n (pc := 24) C dX7_word_24 rfl ?_
                    refine k_getR (pc := 25) (r := some (8, 24, 0)) C fl_X7_75 k_in7 rfl rfl rfl dX7_word_25 ?_
                    refine k_iload (pc := 28) C dX7_word_28 rfl ?_
                    refine k_ialdX (pc := 30) (j := (17 + j)) C (nI_clamp (by omega)) (by decide +kernel) rfl (vp_in_nI (show _ < (43 : Nat) by omega) (show (43 : Nat) < 2 ^ 31 by decide)) dX7_word_30 ?_
                    refine k_sx (x := k_wd (17 + j)) (hw (17 + j) (by omega)) ?_
                    refine k_if_eqF (pc := 31) C 75 dX7_word_31 (by decide) hkn ?_
                    refine k_iload (pc := 34) C dX7_word_34 rfl ?_
                    refine k_aload_n (pc := 36) C dX7_word_36 rfl ?_
                    refine k_getI (pc := 37) C fl_X7_173 k_in7 rfl rfl dX7_word_37 ?_
                    refine k_icmp_ge (pc := 40) C 75 dX7_word_40 (by decide) (fun c40 => ?_) (fun c40 => ?_)
                    · skip
                      refine k_aload_n (pc := 75) C dX7_word_75 rfl ?_
                      refine k_getR (pc := 76) (r := some (8, 24, 0)) C fl_X7_75 k_in7 rfl rfl rfl dX7_word_76 ?_
                      refine k_iload (pc := 79) C dX7_word_79 rfl ?_
                      refine k_ialdX (pc := 81) (j := (17 + j)) C (nI_clamp (by omega)) (by decide +kernel) rfl (vp_in_nI (show _ < (43 : Nat) by omega) (show (43 : Nat) < 2 ^ 31 by decide)) dX7_word_81 ?_
                      refine k_sx (x := k_wd (17 + j)) (hw (17 + j) (by omega)) ?_
                      refine k_if_neT (pc := 82) C 93 dX7_word_82 (by decide) hkn ?_
                      have hrj : f_X7_wm mi ml 17 5 0 = j := by rw [← hres, f_X7_wm_s, if_pos c40]
                      refine k_drop_5 ?_
                      rw [hrj] at hmiss2
                      exact hmiss2
                    · skip
                      refine k_aload_n (pc := 43) C dX7_word_43 rfl ?_
                      refine k_getR (pc := 44) (r := some (9, 1, 0)) C fl_X7_68 k_in7 rfl rfl rfl dX7_word_44 ?_
                      refine k_aload_n (pc := 47) C dX7_word_47 rfl ?_
                      refine k_getI (pc := 48) C fl_X7_176 k_in7 rfl rfl dX7_word_48 ?_
                      refine k_iload (pc := 51) C dX7_word_51 rfl ?_
                      refine k_iadd (pc := 53) C dX7_word_53 ?_
                      refine k_laldX (pc := 54) (j := ((mi (7, 0, 0) 28) + ((mi (7, 0, 0) 29) + (nI j))).toNatClampNeg) C rfl (by decide +kernel) rfl (k_cin2 hrd (show j < 1000 by omega) c40) dX7_word_54 ?_
                      refine k_l2i (pc := 55) C dX7_word_55 ?_
                      refine k_aload_n (pc := 56) C dX7_word_56 rfl ?_
                      refine k_getR (pc := 57) (r := some (8, 24, 0)) C fl_X7_75 k_in7 rfl rfl rfl dX7_word_57 ?_
                      refine k_iload (pc := 60) C dX7_word_60 rfl ?_
                      refine k_ialdX (pc := 62) (j := (17 + j)) C (nI_clamp (by omega)) (by decide +kernel) rfl (vp_in_nI (show _ < (43 : Nat) by omega) (show (43 : Nat) < 2 ^ 31 by decide)) dX7_word_62 ?_
                      refine k_sx (x := k_wd (17 + j)) (hw (17 + j) (by omega)) ?_
                      refine k_icmp_ne (pc := 63) C 75 dX7_word_63 (by decide) (fun c63 => ?_) (fun c63 => ?_)
                      · skip
                        refine k_aload_n (pc := 75) C dX7_word_75 rfl ?_
                        refine k_getR (pc := 76) (r := some (8, 24, 0)) C fl_X7_75 k_in7 rfl rfl rfl dX7_word_76 ?_
                        refine k_iload (pc := 79) C dX7_word_79 rfl ?_
                        refine k_ialdX (pc := 81) (j := (17 + j)) C (nI_clamp (by omega)) (by decide +kernel) rfl (vp_in_nI (show _ < (43 : Nat) by omega) (show (43 : Nat) < 2 ^ 31 by decide)) dX7_word_81 ?_
                        refine k_sx (x := k_wd (17 + j)) (hw (17 + j) (by omega)) ?_
                        refine k_if_neT (pc := 82) C 93 dX7_word_82 (by decide) hkn ?_
                        have hrj : f_X7_wm mi ml 17 5 0 = j := by rw [← hres, f_X7_wm_s, if_neg c40, if_neg c63]
                        refine k_drop_5 ?_
                        rw [hrj] at hmiss2
                        exact hmiss2
                      · skip
                        refine k_iinc_4 (pc := 66) (v := ((mi (7, 0, 0) 29) + (nI j)) + 1) C dX7_word_66 rfl rfl ?_
                        refine k_iinc_5 (pc := 69) (v := nI ((17 + j) + 1)) C dX7_word_69 (k_inc (17 + j)) rfl ?_
                        refine k_goto (pc := 72) C 24 dX7_word_72 (by decide) ?_
                        exact k_cast (L' := [vR (7, 0, 0), vI 17, vI (k_mx (k_mx (mi (7, 0, 0) 29) ((mi (7, 0, 0) 29) + (nI (f_X7_wm mi ml 0 8 0)))) ((mi (7, 0, 0) 29) + (nI (f_X7_wm mi ml 9 7 0)))), vI 2, vI ((mi (7, 0, 0) 29) + (nI (j + 1))), vI (nI (17 + (j + 1)))]) (by rw [k_q1]; rfl) rfl rfl (ih (j + 1) (by omega) (by rw [← hres, f_X7_wm_s, if_neg c40, if_pos c63]))
                exact hloop 5 0 rfl rfl
            refine k_iload (pc := 93) C dX7_word_93 rfl ?_
            refine k_iload_n (pc := 95) C dX7_word_95 rfl ?_
            refine k_icmp_le (pc := 96) C 104 dX7_word_96 (by decide) (fun c96 => ?_) (fun c96 => ?_)
            · skip
              refine k_iload_n (pc := 104) C dX7_word_104 rfl ?_
              refine k_castS (st' := [vI (k_mx (k_mx (mi (7, 0, 0) 29) ((mi (7, 0, 0) 29) + (nI (f_X7_wm mi ml 0 8 0)))) ((mi (7, 0, 0) 29) + (nI (f_X7_wm mi ml 9 7 0))))]) (by rw [k_mxle c96]) ?_
              refine k_drop_4 ?_
              exact hmx
            · skip
              refine k_iload (pc := 99) C dX7_word_99 rfl ?_
              refine k_goto (pc := 101) C 105 dX7_word_101 (by decide) ?_
              refine k_castS (st' := [vI (k_mx (k_mx (mi (7, 0, 0) 29) ((mi (7, 0, 0) 29) + (nI (f_X7_wm mi ml 0 8 0)))) ((mi (7, 0, 0) 29) + (nI (f_X7_wm mi ml 9 7 0))))]) (by rw [k_mxgt c96]) ?_
              refine k_drop_4 ?_
              exact hmx
          have hloop : ∀ (u j : Nat), j + u = 7 → f_X7_wm mi ml 9 u j = f_X7_wm mi ml 9 7 0 → k_V p l e (k_rm 0) s m args below meth c D cy ad bs k_KS k_R0 0 0 (k_End below D cy ad bs k_KS k_R0 (k_rt (some (vI (f_X7_word mi ml).1)) (f_X7_word mi ml).2 ml) args s) mi ml 24 [vR (7, 0, 0), vI 9, vI (k_mx (mi (7, 0, 0) 29) ((mi (7, 0, 0) 29) + (nI (f_X7_wm mi ml 0 8 0)))), vI 1, vI ((mi (7, 0, 0) 29) + (nI j)), vI (nI (9 + j))] [] := by
            intro u
            induction u with
            | zero =>
              intro j hju hres
              exact absurd (hres.symm.trans (show j = 7 by omega)) hM1
            | succ u ih =>
              intro j hju hres
              have hj : j < 7 := by omega
              have hkn : ¬ (k_wd (9 + j)) = 0 := (by decide : ∀ j, j < 7 → ¬ (k_wd (9 + j)) = 0) j hj
              refine k_aload_n (pc := 24) C dX7_word_24 rfl ?_
              refine k_getR (pc := 25) (r := some (8, 24, 0)) C fl_X7_75 k_in7 rfl rfl rfl dX7_word_25 ?_
              refine k_iload (pc := 28) C dX7_word_28 rfl ?_
              refine k_ialdX (pc := 30) (j := (9 + j)) C (nI_clamp (by omega)) (by decide +kernel) rfl (vp_in_nI (show _ < (43 : Nat) by omega) (show (43 : Nat) < 2 ^ 31 by decide)) dX7_word_30 ?_
              refine k_sx (x := k_wd (9 + j)) (hw (9 + j) (by omega)) ?_
              refine k_if_eqF (pc := 31) C 75 dX7_word_31 (by decide) hkn ?_
              refine k_iload (pc := 34) C dX7_word_34 rfl ?_
              refine k_aload_n (pc := 36) C dX7_word_36 rfl ?_
              refine k_getI (pc := 37) C fl_X7_173 k_in7 rfl rfl dX7_word_37 ?_
              refine k_icmp_ge (pc := 40) C 75 dX7_word_40 (by decide) (fun c40 => ?_) (fun c40 => ?_)
              · skip
                refine k_aload_n (pc := 75) C dX7_word_75 rfl ?_
                refine k_getR (pc := 76) (r := some (8, 24, 0)) C fl_X7_75 k_in7 rfl rfl rfl dX7_word_76 ?_
                refine k_iload (pc := 79) C dX7_word_79 rfl ?_
                refine k_ialdX (pc := 81) (j := (9 + j)) C (nI_clamp (by omega)) (by decide +kernel) rfl (vp_in_nI (show _ < (43 : Nat) by omega) (show (43 : Nat) < 2 ^ 31 by decide)) dX7_word_81 ?_
                refine k_sx (x := k_wd (9 + j)) (hw (9 + j) (by omega)) ?_
                refine k_if_neT (pc := 82) C 93 dX7_word_82 (by decide) hkn ?_
                have hrj : f_X7_wm mi ml 9 7 0 = j := by rw [← hres, f_X7_wm_s, if_pos c40]
                refine k_drop_5 ?_
                rw [hrj] at hmiss1
                exact hmiss1
              · skip
                refine k_aload_n (pc := 43) C dX7_word_43 rfl ?_
                refine k_getR (pc := 44) (r := some (9, 1, 0)) C fl_X7_68 k_in7 rfl rfl rfl dX7_word_44 ?_
                refine k_aload_n (pc := 47) C dX7_word_47 rfl ?_
                refine k_getI (pc := 48) C fl_X7_176 k_in7 rfl rfl dX7_word_48 ?_
                refine k_iload (pc := 51) C dX7_word_51 rfl ?_
                refine k_iadd (pc := 53) C dX7_word_53 ?_
                refine k_laldX (pc := 54) (j := ((mi (7, 0, 0) 28) + ((mi (7, 0, 0) 29) + (nI j))).toNatClampNeg) C rfl (by decide +kernel) rfl (k_cin2 hrd (show j < 1000 by omega) c40) dX7_word_54 ?_
                refine k_l2i (pc := 55) C dX7_word_55 ?_
                refine k_aload_n (pc := 56) C dX7_word_56 rfl ?_
                refine k_getR (pc := 57) (r := some (8, 24, 0)) C fl_X7_75 k_in7 rfl rfl rfl dX7_word_57 ?_
                refine k_iload (pc := 60) C dX7_word_60 rfl ?_
                refine k_ialdX (pc := 62) (j := (9 + j)) C (nI_clamp (by omega)) (by decide +kernel) rfl (vp_in_nI (show _ < (43 : Nat) by omega) (show (43 : Nat) < 2 ^ 31 by decide)) dX7_word_62 ?_
                refine k_sx (x := k_wd (9 + j)) (hw (9 + j) (by omega)) ?_
                refine k_icmp_ne (pc := 63) C 75 dX7_word_63 (by decide) (fun c63 => ?_) (fun c63 => ?_)
                · skip
                  refine k_aload_n (pc := 75) C dX7_word_75 rfl ?_
                  refine k_getR (pc := 76) (r := some (8, 24, 0)) C fl_X7_75 k_in7 rfl rfl rfl dX7_word_76 ?_
                  refine k_iload (pc := 79) C dX7_word_79 rfl ?_
                  refine k_ialdX (pc := 81) (j := (9 + j)) C (nI_clamp (by omega)) (by decide +kernel) rfl (vp_in_nI (show _ < (43 : Nat) by omega) (show (43 : Nat) < 2 ^ 31 by decide)) dX7_word_81 ?_
                  refine k_sx (x := k_wd (9 + j)) (hw (9 + j) (by omega)) ?_
                  refine k_if_neT (pc := 82) C 93 dX7_word_82 (by decide) hkn ?_
                  have hrj : f_X7_wm mi ml 9 7 0 = j := by rw [← hres, f_X7_wm_s, if_neg c40, if_neg c63]
                  refine k_drop_5 ?_
                  rw [hrj] at hmiss1
                  exact hmiss1
                · skip
                  refine k_iinc_4 (pc := 66) (v := ((mi (7, 0, 0) 29) + (nI j)) + 1) C dX7_word_66 rfl rfl ?_
                  refine k_iinc_5 (pc := 69) (v := nI ((9 + j) + 1)) C dX7_word_69 (k_inc (9 + j)) rfl ?_
                  refine k_goto (pc := 72) C 24 dX7_word_72 (by decide) ?_
                  exact k_cast (L' := [vR (7, 0, 0), vI 9, vI (k_mx (mi (7, 0, 0) 29) ((mi (7, 0, 0) 29) + (nI (f_X7_wm mi ml 0 8 0)))), vI 1, vI ((mi (7, 0, 0) 29) + (nI (j + 1))), vI (nI (9 + (j + 1)))]) (by rw [k_q1]; rfl) rfl rfl (ih (j + 1) (by omega) (by rw [← hres, f_X7_wm_s, if_neg c40, if_pos c63]))
          exact hloop 7 0 rfl rfl
      refine k_iload (pc := 93) C dX7_word_93 rfl ?_
      refine k_iload_n (pc := 95) C dX7_word_95 rfl ?_
      refine k_icmp_le (pc := 96) C 104 dX7_word_96 (by decide) (fun c96 => ?_) (fun c96 => ?_)
      · skip
        refine k_iload_n (pc := 104) C dX7_word_104 rfl ?_
        refine k_castS (st' := [vI (k_mx (mi (7, 0, 0) 29) ((mi (7, 0, 0) 29) + (nI (f_X7_wm mi ml 0 8 0))))]) (by rw [k_mxle c96]) ?_
        refine k_drop_4 ?_
        exact hmx
      · skip
        refine k_iload (pc := 99) C dX7_word_99 rfl ?_
        refine k_goto (pc := 101) C 105 dX7_word_101 (by decide) ?_
        refine k_castS (st' := [vI (k_mx (mi (7, 0, 0) 29) ((mi (7, 0, 0) 29) + (nI (f_X7_wm mi ml 0 8 0))))]) (by rw [k_mxgt c96]) ?_
        refine k_drop_4 ?_
        exact hmx
    have hloop : ∀ (u j : Nat), j + u = 8 → f_X7_wm mi ml 0 u j = f_X7_wm mi ml 0 8 0 → k_V p l e (k_rm 0) s m args below meth c D cy ad bs k_KS k_R0 0 0 (k_End below D cy ad bs k_KS k_R0 (k_rt (some (vI (f_X7_word mi ml).1)) (f_X7_word mi ml).2 ml) args s) mi ml 24 [vR (7, 0, 0), vI 0, vI (mi (7, 0, 0) 29), vI 0, vI ((mi (7, 0, 0) 29) + (nI j)), vI (nI (0 + j))] [] := by
      intro u
      induction u with
      | zero =>
        intro j hju hres
        exact absurd (hres.symm.trans (show j = 8 by omega)) hM0
      | succ u ih =>
        intro j hju hres
        have hj : j < 8 := by omega
        have hkn : ¬ (k_wd (0 + j)) = 0 := (by decide : ∀ j, j < 8 → ¬ (k_wd (0 + j)) = 0) j hj
        refine k_aload_n (pc := 24) C dX7_word_24 rfl ?_
        refine k_getR (pc := 25) (r := some (8, 24, 0)) C fl_X7_75 k_in7 rfl rfl rfl dX7_word_25 ?_
        refine k_iload (pc := 28) C dX7_word_28 rfl ?_
        refine k_ialdX (pc := 30) (j := (0 + j)) C (nI_clamp (by omega)) (by decide +kernel) rfl (vp_in_nI (show _ < (43 : Nat) by omega) (show (43 : Nat) < 2 ^ 31 by decide)) dX7_word_30 ?_
        refine k_sx (x := k_wd (0 + j)) (hw (0 + j) (by omega)) ?_
        refine k_if_eqF (pc := 31) C 75 dX7_word_31 (by decide) hkn ?_
        refine k_iload (pc := 34) C dX7_word_34 rfl ?_
        refine k_aload_n (pc := 36) C dX7_word_36 rfl ?_
        refine k_getI (pc := 37) C fl_X7_173 k_in7 rfl rfl dX7_word_37 ?_
        refine k_icmp_ge (pc := 40) C 75 dX7_word_40 (by decide) (fun c40 => ?_) (fun c40 => ?_)
        · skip
          refine k_aload_n (pc := 75) C dX7_word_75 rfl ?_
          refine k_getR (pc := 76) (r := some (8, 24, 0)) C fl_X7_75 k_in7 rfl rfl rfl dX7_word_76 ?_
          refine k_iload (pc := 79) C dX7_word_79 rfl ?_
          refine k_ialdX (pc := 81) (j := (0 + j)) C (nI_clamp (by omega)) (by decide +kernel) rfl (vp_in_nI (show _ < (43 : Nat) by omega) (show (43 : Nat) < 2 ^ 31 by decide)) dX7_word_81 ?_
          refine k_sx (x := k_wd (0 + j)) (hw (0 + j) (by omega)) ?_
          refine k_if_neT (pc := 82) C 93 dX7_word_82 (by decide) hkn ?_
          have hrj : f_X7_wm mi ml 0 8 0 = j := by rw [← hres, f_X7_wm_s, if_pos c40]
          refine k_drop_5 ?_
          rw [hrj] at hmiss0
          exact hmiss0
        · skip
          refine k_aload_n (pc := 43) C dX7_word_43 rfl ?_
          refine k_getR (pc := 44) (r := some (9, 1, 0)) C fl_X7_68 k_in7 rfl rfl rfl dX7_word_44 ?_
          refine k_aload_n (pc := 47) C dX7_word_47 rfl ?_
          refine k_getI (pc := 48) C fl_X7_176 k_in7 rfl rfl dX7_word_48 ?_
          refine k_iload (pc := 51) C dX7_word_51 rfl ?_
          refine k_iadd (pc := 53) C dX7_word_53 ?_
          refine k_laldX (pc := 54) (j := ((mi (7, 0, 0) 28) + ((mi (7, 0, 0) 29) + (nI j))).toNatClampNeg) C rfl (by decide +kernel) rfl (k_cin2 hrd (show j < 1000 by omega) c40) dX7_word_54 ?_
          refine k_l2i (pc := 55) C dX7_word_55 ?_
          refine k_aload_n (pc := 56) C dX7_word_56 rfl ?_
          refine k_getR (pc := 57) (r := some (8, 24, 0)) C fl_X7_75 k_in7 rfl rfl rfl dX7_word_57 ?_
          refine k_iload (pc := 60) C dX7_word_60 rfl ?_
          refine k_ialdX (pc := 62) (j := (0 + j)) C (nI_clamp (by omega)) (by decide +kernel) rfl (vp_in_nI (show _ < (43 : Nat) by omega) (show (43 : Nat) < 2 ^ 31 by decide)) dX7_word_62 ?_
          refine k_sx (x := k_wd (0 + j)) (hw (0 + j) (by omega)) ?_
          refine k_icmp_ne (pc := 63) C 75 dX7_word_63 (by decide) (fun c63 => ?_) (fun c63 => ?_)
          · skip
            refine k_aload_n (pc := 75) C dX7_word_75 rfl ?_
            refine k_getR (pc := 76) (r := some (8, 24, 0)) C fl_X7_75 k_in7 rfl rfl rfl dX7_word_76 ?_
            refine k_iload (pc := 79) C dX7_word_79 rfl ?_
            refine k_ialdX (pc := 81) (j := (0 + j)) C (nI_clamp (by omega)) (by decide +kernel) rfl (vp_in_nI (show _ < (43 : Nat) by omega) (show (43 : Nat) < 2 ^ 31 by decide)) dX7_word_81 ?_
            refine k_sx (x := k_wd (0 + j)) (hw (0 + j) (by omega)) ?_
            refine k_if_neT (pc := 82) C 93 dX7_word_82 (by decide) hkn ?_
            have hrj : f_X7_wm mi ml 0 8 0 = j := by rw [← hres, f_X7_wm_s, if_neg c40, if_neg c63]
            refine k_drop_5 ?_
            rw [hrj] at hmiss0
            exact hmiss0
          · skip
            refine k_iinc_4 (pc := 66) (v := ((mi (7, 0, 0) 29) + (nI j)) + 1) C dX7_word_66 rfl rfl ?_
            refine k_iinc_5 (pc := 69) (v := nI ((0 + j) + 1)) C dX7_word_69 (k_inc (0 + j)) rfl ?_
            refine k_goto (pc := 72) C 24 dX7_word_72 (by decide) ?_
            exact k_cast (L' := [vR (7, 0, 0), vI 0, vI (mi (7, 0, 0) 29), vI 0, vI ((mi (7, 0, 0) 29) + (nI (j + 1))), vI (nI (0 + (j + 1)))]) (by rw [k_q1]; rfl) rfl rfl (ih (j + 1) (by omega) (by rw [← hres, f_X7_wm_s, if_neg c40, if_pos c63]))
    exact hloop 8 0 rfl rfl
