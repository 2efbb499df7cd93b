/-! Model: shelves, people, faces -/
theorem isShelf_in {s0 : Int32} (h : ¬ f_X7_isShelf s0 = 0) : vp_in s0 8 := by
  unfold f_X7_isShelf at h
  split at h
  · exact absurd rfl h
  · split at h
    · exact absurd rfl h
    · exact k_vin (N := 8) (n := 8) (by assumption) (by assumption) (by decide)
theorem isCitizen_in {mi : MemI} {x : Int32} {nC : Nat} (hC : mi (7, 0, 0) 0 = nI nC) (h6 : nC ≤ 6) (h : ¬ f_X7_isCitizen mi x = 0) : vp_in x nC := by
  unfold f_X7_isCitizen at h
  split at h
  · exact absurd rfl h
  · split at h
    · exact absurd rfl h
    · rename_i h0 h1
      rw [hC] at h1
      exact k_vin (N := nI nC) (n := nC) h0 h1 (nI_toInt (by omega))
theorem isBeggar_in {mi : MemI} {x : Int32} {nB : Nat} (hB : mi (7, 0, 0) 1 = nI nB) (h6 : nB ≤ 6) (h : ¬ f_X7_isBeggar mi x = 0) : vp_in x nB := by
  unfold f_X7_isBeggar at h
  split at h
  · exact absurd rfl h
  · split at h
    · exact absurd rfl h
    · rename_i h0 h1
      rw [hB] at h1
      exact k_vin (N := nI nB) (n := nB) h0 h1 (nI_toInt (by omega))
theorem vp_mono {x : Int32} {n m : Nat} (h : vp_in x n) (hnm : n ≤ m) : vp_in x m := by
  exact fun q => h (q.imp id (fun z => Nat.le_trans hnm z))
theorem k_cellin {s0 x : Int32} (hs : vp_in s0 8) (hx : vp_in x 160) : vp_in (160 * s0 + x) 1280 ∧ (160 * s0 + x).toNatClampNeg = 160 * s0.toNatClampNeg + x.toNatClampNeg := by
  obtain ⟨a, ha, rfl⟩ := vp_in_of hs (by decide)
  obtain ⟨b, hb, rfl⟩ := vp_in_of hx (by decide)
  have e : (160 : Int32) * nI a + nI b = nI (160 * a + b) := by
    rw [show (160 : Int32) = nI 160 from rfl, pk_mul, nI_add]
  rw [e, nI_clamp (by omega), nI_clamp (by omega), nI_clamp (by omega)]
  exact ⟨vp_in_nI (by omega) (by decide), rfl⟩
def f_X7_holds (mi : MemI) (s0 : Int32) : Int32 :=
  if (f_X7_isShelf s0) = 0 then (-1)
  else if (mi (8, 18, 0) s0.toNatClampNeg) = 0 then (-1)
    else if (mi (8, 18, 0) s0.toNatClampNeg) = 1 then (100 + (mi (8, 19, 0) s0.toNatClampNeg))
      else (mi (8, 21, 0) s0.toNatClampNeg)
set_option maxRecDepth 100000 in
set_option maxHeartbeats 4000000 in
theorem ct_X7_holds {mi : MemI} {ml : MemL} {s0 : Int32}  : k_Ct k_KS k_R0 Mt_X7_holds 1 [vR (7, 0, 0), vI s0] mi ml (k_rt (some (vI (f_X7_holds mi s0))) mi ml) := by
  refine k_ofV (L0 := [vR (7, 0, 0), vI s0]) (by decide +kernel) (Nat.le_of_ble_eq_true rfl) rfl rfl ?_
  intro p l e s m args below meth c D cy ad bs C
  refine k_aload_n (pc := 0) C dX7_holds_0 rfl ?_
  refine k_iload_n (pc := 1) C dX7_holds_1 rfl ?_
  refine k_call1 (pc := 2) C cv_X7_135 ct_X7_isShelf k_in7 rfl (by decide) rfl (Nat.le_of_ble_eq_true rfl) dX7_holds_2 ?_
  refine k_if_eq (pc := 5) C 17 dX7_holds_5 (by decide) (fun c5 => ?_) (fun c5 => ?_)
  · skip
    refine k_iconst (pc := 17) (v := (-1)) C dX7_holds_17 (by decide) ?_
    exact k_iret (pc := 18) C rfl (k_fI (by unfold f_X7_holds; rw [if_pos c5]; try rfl)) dX7_holds_18
  · skip
    have qc5 := isShelf_in c5
    refine k_aload_n (pc := 8) C dX7_holds_8 rfl ?_
    refine k_getR (pc := 9) (r := some (8, 18, 0)) C fl_X7_56 k_in7 rfl rfl rfl dX7_holds_9 ?_
    refine k_iload_n (pc := 12) C dX7_holds_12 rfl ?_
    refine k_ialdX (pc := 13) (j := s0.toNatClampNeg) C rfl (by decide +kernel) rfl (by first | assumption | exact k_vin (N := 8) (n := 8) (by assumption) (by assumption) (by decide)) dX7_holds_13 ?_
    refine k_if_ne (pc := 14) C 19 dX7_holds_14 (by decide) (fun c14 => ?_) (fun c14 => ?_)
    · skip
      refine k_aload_n (pc := 19) C dX7_holds_19 rfl ?_
      refine k_getR (pc := 20) (r := some (8, 18, 0)) C fl_X7_56 k_in7 rfl rfl rfl dX7_holds_20 ?_
      refine k_iload_n (pc := 23) C dX7_holds_23 rfl ?_
      refine k_ialdX (pc := 24) (j := s0.toNatClampNeg) C rfl (by decide +kernel) rfl (by first | assumption | exact k_vin (N := 8) (n := 8) (by assumption) (by assumption) (by decide)) dX7_holds_24 ?_
      refine k_iconst (pc := 25) (v := 1) C dX7_holds_25 (by decide) ?_
      refine k_icmp_ne (pc := 26) C 41 dX7_holds_26 (by decide) (fun c26 => ?_) (fun c26 => ?_)
      · skip
        refine k_aload_n (pc := 41) C dX7_holds_41 rfl ?_
        refine k_getR (pc := 42) (r := some (8, 21, 0)) C fl_X7_65 k_in7 rfl rfl rfl dX7_holds_42 ?_
        refine k_iload_n (pc := 45) C dX7_holds_45 rfl ?_
        refine k_ialdX (pc := 46) (j := s0.toNatClampNeg) C rfl (by decide +kernel) rfl (by first | assumption | exact k_vin (N := 8) (n := 8) (by assumption) (by assumption) (by decide)) dX7_holds_46 ?_
        exact k_iret (pc := 47) C rfl (k_fI (by unfold f_X7_holds; rw [if_neg c5, if_neg c14, if_neg c26]; try rfl)) dX7_holds_47
      · skip
        refine k_bipush (pc := 29) (v := 100) C dX7_holds_29 (by decide) ?_
        refine k_aload_n (pc := 31) C dX7_holds_31 rfl ?_
        refine k_getR (pc := 32) (r := some (8, 19, 0)) C fl_X7_59 k_in7 rfl rfl rfl dX7_holds_32 ?_
        refine k_iload_n (pc := 35) C dX7_holds_35 rfl ?_
        refine k_ialdX (pc := 36) (j := s0.toNatClampNeg) C rfl (by decide +kernel) rfl (by first | assumption | exact k_vin (N := 8) (n := 8) (by assumption) (by assumption) (by decide)) dX7_holds_36 ?_
        refine k_iadd (pc := 37) C dX7_holds_37 ?_
        refine k_goto (pc := 38) C 47 dX7_holds_38 (by decide) ?_
        exact k_iret (pc := 47) C rfl (k_fI (by unfold f_X7_holds; rw [if_neg c5, if_neg c14, if_pos c26]; try rfl)) dX7_holds_47
    · skip
      refine k_iconst (pc := 17) (v := (-1)) C dX7_holds_17 (by decide) ?_
      exact k_iret (pc := 18) C rfl (k_fI (by unfold f_X7_holds; rw [if_neg c5, if_pos c14]; try rfl)) dX7_holds_18
def f_X7_wanted (mi : MemI) (s0 : Int32) : Int32 :=
  if (f_X7_isShelf s0) = 0 then (-1)
  else if (mi (8, 18, 0) s0.toNatClampNeg) = 2 then (-2)
    else if (mi (8, 18, 0) s0.toNatClampNeg) = 0 then (-3)
      else 0
set_option maxRecDepth 100000 in
set_option maxHeartbeats 4000000 in
theorem ct_X7_wanted {mi : MemI} {ml : MemL} {s0 : Int32}  : k_Ct k_KS k_R0 Mt_X7_wanted 1 [vR (7, 0, 0), vI s0] mi ml (k_rt (some (vI (f_X7_wanted mi s0))) mi ml) := by
  refine k_ofV (L0 := [vR (7, 0, 0), vI s0]) (by decide +kernel) (Nat.le_of_ble_eq_true rfl) rfl rfl ?_
  intro p l e s m args below meth c D cy ad bs C
  refine k_aload_n (pc := 0) C dX7_wanted_0 rfl ?_
  refine k_iload_n (pc := 1) C dX7_wanted_1 rfl ?_
  refine k_call1 (pc := 2) C cv_X7_135 ct_X7_isShelf k_in7 rfl (by decide) rfl (Nat.le_of_ble_eq_true rfl) dX7_wanted_2 ?_
  refine k_if_ne (pc := 5) C 12 dX7_wanted_5 (by decide) (fun c5 => ?_) (fun c5 => ?_)
  · skip
    have qc5 := isShelf_in c5
    refine k_aload_n (pc := 12) C dX7_wanted_12 rfl ?_
    refine k_getR (pc := 13) (r := some (8, 18, 0)) C fl_X7_56 k_in7 rfl rfl rfl dX7_wanted_13 ?_
    refine k_iload_n (pc := 16) C dX7_wanted_16 rfl ?_
    refine k_ialdX (pc := 17) (j := s0.toNatClampNeg) C rfl (by decide +kernel) rfl (by first | assumption | exact k_vin (N := 8) (n := 8) (by assumption) (by assumption) (by decide)) dX7_wanted_17 ?_
    refine k_iconst (pc := 18) (v := 2) C dX7_wanted_18 (by decide) ?_
    refine k_icmp_ne (pc := 19) C 27 dX7_wanted_19 (by decide) (fun c19 => ?_) (fun c19 => ?_)
    · skip
      refine k_aload_n (pc := 27) C dX7_wanted_27 rfl ?_
      refine k_getR (pc := 28) (r := some (8, 18, 0)) C fl_X7_56 k_in7 rfl rfl rfl dX7_wanted_28 ?_
      refine k_iload_n (pc := 31) C dX7_wanted_31 rfl ?_
      refine k_ialdX (pc := 32) (j := s0.toNatClampNeg) C rfl (by decide +kernel) rfl (by first | assumption | exact k_vin (N := 8) (n := 8) (by assumption) (by assumption) (by decide)) dX7_wanted_32 ?_
      refine k_if_ne (pc := 33) C 41 dX7_wanted_33 (by decide) (fun c33 => ?_) (fun c33 => ?_)
      · skip
        refine k_iconst (pc := 41) (v := 0) C dX7_wanted_41 (by decide) ?_
        exact k_iret (pc := 42) C rfl (k_fI (by unfold f_X7_wanted; rw [if_neg c5, if_neg c19, if_neg c33]; try rfl)) dX7_wanted_42
      · skip
        refine k_bipush (pc := 36) (v := (-3)) C dX7_wanted_36 (by decide) ?_
        refine k_goto (pc := 38) C 42 dX7_wanted_38 (by decide) ?_
        exact k_iret (pc := 42) C rfl (k_fI (by unfold f_X7_wanted; rw [if_neg c5, if_neg c19, if_pos c33]; try rfl)) dX7_wanted_42
    · skip
      refine k_bipush (pc := 22) (v := (-2)) C dX7_wanted_22 (by decide) ?_
      refine k_goto (pc := 24) C 42 dX7_wanted_24 (by decide) ?_
      exact k_iret (pc := 42) C rfl (k_fI (by unfold f_X7_wanted; rw [if_neg c5, if_pos c19]; try rfl)) dX7_wanted_42
  · skip
    refine k_iconst (pc := 8) (v := (-1)) C dX7_wanted_8 (by decide) ?_
    refine k_goto (pc := 9) C 42 dX7_wanted_9 (by decide) ?_
    exact k_iret (pc := 42) C rfl (k_fI (by unfold f_X7_wanted; rw [if_pos c5]; try rfl)) dX7_wanted_42
def f_X7_show (mi : MemI) (s0 : Int32) (cz : Int32) : Int32 × MemI :=
  if (f_X7_isShelf s0) = 0 then ((f_X7_no mi (-1)).1, (f_X7_no mi (-1)).2)
  else if cz = (-1) then (0, k_ui (k_ui mi (8, 18, 0) s0.toNatClampNeg 0) (8, 21, 0) s0.toNatClampNeg cz)
    else if (f_X7_isCitizen mi cz) = 0 then ((f_X7_no mi (-1)).1, (f_X7_no mi (-1)).2)
      else (1, k_ui (k_ui mi (8, 18, 0) s0.toNatClampNeg 2) (8, 21, 0) s0.toNatClampNeg cz)
set_option maxRecDepth 100000 in
set_option maxHeartbeats 4000000 in
theorem ct_X7_show {nC : Nat} {mi : MemI} {ml : MemL} {s0 : Int32} {cz : Int32} (hC : mi (7, 0, 0) 0 = nI nC) (h6 : nC ≤ 6) : k_Ct k_KS k_R0 Mt_X7_show 1 [vR (7, 0, 0), vI s0, vI cz] mi ml (k_rt (some (vI (f_X7_show mi s0 cz).1)) (f_X7_show mi s0 cz).2 ml) := by
  refine k_ofV (L0 := [vR (7, 0, 0), vI s0, vI cz]) (by decide +kernel) (Nat.le_of_ble_eq_true rfl) rfl rfl ?_
  intro p l e s m args below meth c D cy ad bs C
  refine k_aload_n (pc := 0) C dX7_show_0 rfl ?_
  refine k_iload_n (pc := 1) C dX7_show_1 rfl ?_
  refine k_call1 (pc := 2) C cv_X7_135 ct_X7_isShelf k_in7 rfl (by decide) rfl (Nat.le_of_ble_eq_true rfl) dX7_show_2 ?_
  refine k_if_eq (pc := 5) C 21 dX7_show_5 (by decide) (fun c5 => ?_) (fun c5 => ?_)
  · skip
    refine k_aload_n (pc := 21) C dX7_show_21 rfl ?_
    refine k_iconst (pc := 22) (v := (-1)) C dX7_show_22 (by decide) ?_
    refine k_call1 (pc := 23) C cv_X7_139 (ct_X7_no (k_vd (by decide))) k_in7 rfl (by decide) rfl (Nat.le_of_ble_eq_true rfl) dX7_show_23 ?_
    exact k_iret (pc := 26) C rfl (k_fIm (by unfold f_X7_show; rw [if_pos c5]; try rfl)) dX7_show_26
  · skip
    have qc5 := isShelf_in c5
    refine k_iload_n (pc := 8) C dX7_show_8 rfl ?_
    refine k_iconst (pc := 9) (v := (-1)) C dX7_show_9 (by decide) ?_
    refine k_icmp_eq (pc := 10) C 27 dX7_show_10 (by decide) (fun c10 => ?_) (fun c10 => ?_)
    · skip
      refine k_aload_n (pc := 27) C dX7_show_27 rfl ?_
      refine k_getR (pc := 28) (r := some (8, 18, 0)) C fl_X7_56 k_in7 rfl rfl rfl dX7_show_28 ?_
      refine k_iload_n (pc := 31) C dX7_show_31 rfl ?_
      refine k_iload_n (pc := 32) C dX7_show_32 rfl ?_
      refine k_iconst (pc := 33) (v := (-1)) C dX7_show_33 (by decide) ?_
      refine k_icmp_neF (pc := 34) C 41 dX7_show_34 (by decide) c10 ?_
      refine k_iconst (pc := 37) (v := 0) C dX7_show_37 (by decide) ?_
      refine k_goto (pc := 38) C 42 dX7_show_38 (by decide) ?_
      refine k_iastX (pc := 42) (j := s0.toNatClampNeg) C rfl (by decide +kernel) rfl (by first | assumption | exact k_vin (N := 8) (n := 8) (by assumption) (by assumption) (by decide)) dX7_show_42 ?_
      refine k_aload_n (pc := 43) C dX7_show_43 rfl ?_
      refine k_getR (pc := 44) (r := some (8, 21, 0)) C fl_X7_65 k_in7 rfl rfl rfl dX7_show_44 ?_
      refine k_iload_n (pc := 47) C dX7_show_47 rfl ?_
      refine k_iload_n (pc := 48) C dX7_show_48 rfl ?_
      refine k_iastX (pc := 49) (j := s0.toNatClampNeg) C rfl (by decide +kernel) rfl (by first | assumption | exact k_vin (N := 8) (n := 8) (by assumption) (by assumption) (by decide)) dX7_show_49 ?_
      refine k_iload_n (pc := 50) C dX7_show_50 rfl ?_
      refine k_iconst (pc := 51) (v := (-1)) C dX7_show_51 (by decide) ?_
      refine k_icmp_neF (pc := 52) C 59 dX7_show_52 (by decide) c10 ?_
      refine k_iconst (pc := 55) (v := 0) C dX7_show_55 (by decide) ?_
      refine k_goto (pc := 56) C 60 dX7_show_56 (by decide) ?_
      exact k_iret (pc := 60) C rfl (k_fIm (by unfold f_X7_show; rw [if_neg c5, if_pos c10]; try rfl)) dX7_show_60
    · skip
      refine k_aload_n (pc := 13) C dX7_show_13 rfl ?_
      refine k_iload_n (pc := 14) C dX7_show_14 rfl ?_
      refine k_call1 (pc := 15) C cv_X7_143 ct_X7_isCitizen k_in7 rfl (by decide) rfl (Nat.le_of_ble_eq_true rfl) dX7_show_15 ?_
      refine k_if_ne (pc := 18) C 27 dX7_show_18 (by decide) (fun c18 => ?_) (fun c18 => ?_)
      · skip
        have qc18 := vp_mono (isCitizen_in hC h6 c18) h6
        refine k_aload_n (pc := 27) C dX7_show_27 rfl ?_
        refine k_getR (pc := 28) (r := some (8, 18, 0)) C fl_X7_56 k_in7 rfl rfl rfl dX7_show_28 ?_
        refine k_iload_n (pc := 31) C dX7_show_31 rfl ?_
        refine k_iload_n (pc := 32) C dX7_show_32 rfl ?_
        refine k_iconst (pc := 33) (v := (-1)) C dX7_show_33 (by decide) ?_
        refine k_icmp_neT (pc := 34) C 41 dX7_show_34 (by decide) c10 ?_
        refine k_iconst (pc := 41) (v := 2) C dX7_show_41 (by decide) ?_
        refine k_iastX (pc := 42) (j := s0.toNatClampNeg) C rfl (by decide +kernel) rfl (by first | assumption | exact k_vin (N := 8) (n := 8) (by assumption) (by assumption) (by decide)) dX7_show_42 ?_
        refine k_aload_n (pc := 43) C dX7_show_43 rfl ?_
        refine k_getR (pc := 44) (r := some (8, 21, 0)) C fl_X7_65 k_in7 rfl rfl rfl dX7_show_44 ?_
        refine k_iload_n (pc := 47) C dX7_show_47 rfl ?_
        refine k_iload_n (pc := 48) C dX7_show_48 rfl ?_
        refine k_iastX (pc := 49) (j := s0.toNatClampNeg) C rfl (by decide +kernel) rfl (by first | assumption | exact k_vin (N := 8) (n := 8) (by assumption) (by assumption) (by decide)) dX7_show_49 ?_
        refine k_iload_n (pc := 50) C dX7_show_50 rfl ?_
        refine k_iconst (pc := 51) (v := (-1)) C dX7_show_51 (by decide) ?_
        refine k_icmp_neT (pc := 52) C 59 dX7_show_52 (by decide) c10 ?_
        refine k_iconst (pc := 59) (v := 1) C dX7_show_59 (by decide) ?_
        exact k_iret (pc := 60) C rfl (k_fIm (by unfold f_X7_show; rw [if_neg c5, if_neg c10, if_neg c18]; try rfl)) dX7_show_60
      · skip
        refine k_aload_n (pc := 21) C dX7_show_21 rfl ?_
        refine k_iconst (pc := 22) (v := (-1)) C dX7_show_22 (by decide) ?_
        refine k_call1 (pc := 23) C cv_X7_139 (ct_X7_no (k_vd (by decide))) k_in7 rfl (by decide) rfl (Nat.le_of_ble_eq_true rfl) dX7_show_23 ?_
        exact k_iret (pc := 26) C rfl (k_fIm (by unfold f_X7_show; rw [if_neg c5, if_neg c10, if_pos c18]; try rfl)) dX7_show_26
def f_X7_addsCitizen (mi : MemI) (k : Int32) (a : Int32) (ms : Int32) (h : Int32) : Int32 × MemI :=
  ((k_ui (k_ui (k_ui (k_ui (k_ui (k_ui (k_ui mi (8, 6, 0) ((mi (7, 0, 0) 0).toNatClampNeg) k) (8, 7, 0) (((k_ui mi (8, 6, 0) ((mi (7, 0, 0) 0).toNatClampNeg) k) (7, 0, 0) 0).toNatClampNeg) a) (8, 8, 0) (((k_ui (k_ui mi (8, 6, 0) ((mi (7, 0, 0) 0).toNatClampNeg) k) (8, 7, 0) (((k_ui mi (8, 6, 0) ((mi (7, 0, 0) 0).toNatClampNeg) k) (7, 0, 0) 0).toNatClampNeg) a) (7, 0, 0) 0).toNatClampNeg) ms) (8, 9, 0) (((k_ui (k_ui (k_ui mi (8, 6, 0) ((mi (7, 0, 0) 0).toNatClampNeg) k) (8, 7, 0) (((k_ui mi (8, 6, 0) ((mi (7, 0, 0) 0).toNatClampNeg) k) (7, 0, 0) 0).toNatClampNeg) a) (8, 8, 0) (((k_ui (k_ui mi (8, 6, 0) ((mi (7, 0, 0) 0).toNatClampNeg) k) (8, 7, 0) (((k_ui mi (8, 6, 0) ((mi (7, 0, 0) 0).toNatClampNeg) k) (7, 0, 0) 0).toNatClampNeg) a) (7, 0, 0) 0).toNatClampNeg) ms) (7, 0, 0) 0).toNatClampNeg) h) (8, 10, 0) (((k_ui (k_ui (k_ui (k_ui mi (8, 6, 0) ((mi (7, 0, 0) 0).toNatClampNeg) k) (8, 7, 0) (((k_ui mi (8, 6, 0) ((mi (7, 0, 0) 0).toNatClampNeg) k) (7, 0, 0) 0).toNatClampNeg) a) (8, 8, 0) (((k_ui (k_ui mi (8, 6, 0) ((mi (7, 0, 0) 0).toNatClampNeg) k) (8, 7, 0) (((k_ui mi (8, 6, 0) ((mi (7, 0, 0) 0).toNatClampNeg) k) (7, 0, 0) 0).toNatClampNeg) a) (7, 0, 0) 0).toNatClampNeg) ms) (8, 9, 0) (((k_ui (k_ui (k_ui mi (8, 6, 0) ((mi (7, 0, 0) 0).toNatClampNeg) k) (8, 7, 0) (((k_ui mi (8, 6, 0) ((mi (7, 0, 0) 0).toNatClampNeg) k) (7, 0, 0) 0).toNatClampNeg) a) (8, 8, 0) (((k_ui (k_ui mi (8, 6, 0) ((mi (7, 0, 0) 0).toNatClampNeg) k) (8, 7, 0) (((k_ui mi (8, 6, 0) ((mi (7, 0, 0) 0).toNatClampNeg) k) (7, 0, 0) 0).toNatClampNeg) a) (7, 0, 0) 0).toNatClampNeg) ms) (7, 0, 0) 0).toNatClampNeg) h) (7, 0, 0) 0).toNatClampNeg) 0) (8, 11, 0) (((k_ui (k_ui (k_ui (k_ui (k_ui mi (8, 6, 0) ((mi (7, 0, 0) 0).toNatClampNeg) k) (8, 7, 0) (((k_ui mi (8, 6, 0) ((mi (7, 0, 0) 0).toNatClampNeg) k) (7, 0, 0) 0).toNatClampNeg) a) (8, 8, 0) (((k_ui (k_ui mi (8, 6, 0) ((mi (7, 0, 0) 0).toNatClampNeg) k) (8, 7, 0) (((k_ui mi (8, 6, 0) ((mi (7, 0, 0) 0).toNatClampNeg) k) (7, 0, 0) 0).toNatClampNeg) a) (7, 0, 0) 0).toNatClampNeg) ms) (8, 9, 0) (((k_ui (k_ui (k_ui mi (8, 6, 0) ((mi (7, 0, 0) 0).toNatClampNeg) k) (8, 7, 0) (((k_ui mi (8, 6, 0) ((mi (7, 0, 0) 0).toNatClampNeg) k) (7, 0, 0) 0).toNatClampNeg) a) (8, 8, 0) (((k_ui (k_ui mi (8, 6, 0) ((mi (7, 0, 0) 0).toNatClampNeg) k) (8, 7, 0) (((k_ui mi (8, 6, 0) ((mi (7, 0, 0) 0).toNatClampNeg) k) (7, 0, 0) 0).toNatClampNeg) a) (7, 0, 0) 0).toNatClampNeg) ms) (7, 0, 0) 0).toNatClampNeg) h) (8, 10, 0) (((k_ui (k_ui (k_ui (k_ui mi (8, 6, 0) ((mi (7, 0, 0) 0).toNatClampNeg) k) (8, 7, 0) (((k_ui mi (8, 6, 0) ((mi (7, 0, 0) 0).toNatClampNeg) k) (7, 0, 0) 0).toNatClampNeg) a) (8, 8, 0) (((k_ui (k_ui mi (8, 6, 0) ((mi (7, 0, 0) 0).toNatClampNeg) k) (8, 7, 0) (((k_ui mi (8, 6, 0) ((mi (7, 0, 0) 0).toNatClampNeg) k) (7, 0, 0) 0).toNatClampNeg) a) (7, 0, 0) 0).toNatClampNeg) ms) (8, 9, 0) (((k_ui (k_ui (k_ui mi (8, 6, 0) ((mi (7, 0, 0) 0).toNatClampNeg) k) (8, 7, 0) (((k_ui mi (8, 6, 0) ((mi (7, 0, 0) 0).toNatClampNeg) k) (7, 0, 0) 0).toNatClampNeg) a) (8, 8, 0) (((k_ui (k_ui mi (8, 6, 0) ((mi (7, 0, 0) 0).toNatClampNeg) k) (8, 7, 0) (((k_ui mi (8, 6, 0) ((mi (7, 0, 0) 0).toNatClampNeg) k) (7, 0, 0) 0).toNatClampNeg) a) (7, 0, 0) 0).toNatClampNeg) ms) (7, 0, 0) 0).toNatClampNeg) h) (7, 0, 0) 0).toNatClampNeg) 0) (7, 0, 0) 0).toNatClampNeg) 0) (8, 12, 0) (((k_ui (k_ui (k_ui (k_ui (k_ui (k_ui mi (8, 6, 0) ((mi (7, 0, 0) 0).toNatClampNeg) k) (8, 7, 0) (((k_ui mi (8, 6, 0) ((mi (7, 0, 0) 0).toNatClampNeg) k) (7, 0, 0) 0).toNatClampNeg) a) (8, 8, 0) (((k_ui (k_ui mi (8, 6, 0) ((mi (7, 0, 0) 0).toNatClampNeg) k) (8, 7, 0) (((k_ui mi (8, 6, 0) ((mi (7, 0, 0) 0).toNatClampNeg) k) (7, 0, 0) 0).toNatClampNeg) a) (7, 0, 0) 0).toNatClampNeg) ms) (8, 9, 0) (((k_ui (k_ui (k_ui mi (8, 6, 0) ((mi (7, 0, 0) 0).toNatClampNeg) k) (8, 7, 0) (((k_ui mi (8, 6, 0) ((mi (7, 0, 0) 0).toNatClampNeg) k) (7, 0, 0) 0).toNatClampNeg) a) (8, 8, 0) (((k_ui (k_ui mi (8, 6, 0) ((mi (7, 0, 0) 0).toNatClampNeg) k) (8, 7, 0) (((k_ui mi (8, 6, 0) ((mi (7, 0, 0) 0).toNatClampNeg) k) (7, 0, 0) 0).toNatClampNeg) a) (7, 0, 0) 0).toNatClampNeg) ms) (7, 0, 0) 0).toNatClampNeg) h) (8, 10, 0) (((k_ui (k_ui (k_ui (k_ui mi (8, 6, 0) ((mi (7, 0, 0) 0).toNatClampNeg) k) (8, 7, 0) (((k_ui mi (8, 6, 0) ((mi (7, 0, 0) 0).toNatClampNeg) k) (7, 0, 0) 0).toNatClampNeg) a) (8, 8, 0) (((k_ui (k_ui mi (8, 6, 0) ((mi (7, 0, 0) 0).toNatClampNeg) k) (8, 7, 0) (((k_ui mi (8, 6, 0) ((mi (7, 0, 0) 0).toNatClampNeg) k) (7, 0, 0) 0).toNatClampNeg) a) (7, 0, 0) 0).toNatClampNeg) ms) (8, 9, 0) (((k_ui (k_ui (k_ui mi (8, 6, 0) ((mi (7, 0, 0) 0).toNatClampNeg) k) (8, 7, 0) (((k_ui mi (8, 6, 0) ((mi (7, 0, 0) 0).toNatClampNeg) k) (7, 0, 0) 0).toNatClampNeg) a) (8, 8, 0) (((k_ui (k_ui mi (8, 6, 0) ((mi (7, 0, 0) 0).toNatClampNeg) k) (8, 7, 0) (((k_ui mi (8, 6, 0) ((mi (7, 0, 0) 0).toNatClampNeg) k) (7, 0, 0) 0).toNatClampNeg) a) (7, 0, 0) 0).toNatClampNeg) ms) (7, 0, 0) 0).toNatClampNeg) h) (7, 0, 0) 0).toNatClampNeg) 0) (8, 11, 0) (((k_ui (k_ui (k_ui (k_ui (k_ui mi (8, 6, 0) ((mi (7, 0, 0) 0).toNatClampNeg) k) (8, 7, 0) (((k_ui mi (8, 6, 0) ((mi (7, 0, 0) 0).toNatClampNeg) k) (7, 0, 0) 0).toNatClampNeg) a) (8, 8, 0) (((k_ui (k_ui mi (8, 6, 0) ((mi (7, 0, 0) 0).toNatClampNeg) k) (8, 7, 0) (((k_ui mi (8, 6, 0) ((mi (7, 0, 0) 0).toNatClampNeg) k) (7, 0, 0) 0).toNatClampNeg) a) (7, 0, 0) 0).toNatClampNeg) ms) (8, 9, 0) (((k_ui (k_ui (k_ui mi (8, 6, 0) ((mi (7, 0, 0) 0).toNatClampNeg) k) (8, 7, 0) (((k_ui mi (8, 6, 0) ((mi (7, 0, 0) 0).toNatClampNeg) k) (7, 0, 0) 0).toNatClampNeg) a) (8, 8, 0) (((k_ui (k_ui mi (8, 6, 0) ((mi (7, 0, 0) 0).toNatClampNeg) k) (8, 7, 0) (((k_ui mi (8, 6, 0) ((mi (7, 0, 0) 0).toNatClampNeg) k) (7, 0, 0) 0).toNatClampNeg) a) (7, 0, 0) 0).toNatClampNeg) ms) (7, 0, 0) 0).toNatClampNeg) h) (8, 10, 0) (((k_ui (k_ui (k_ui (k_ui mi (8, 6, 0) ((mi (7, 0, 0) 0).toNatClampNeg) k) (8, 7, 0) (((k_ui mi (8, 6, 0) ((mi (7, 0, 0) 0).toNatClampNeg) k) (7, 0, 0) 0).toNatClampNeg) a) (8, 8, 0) (((k_ui (k_ui mi (8, 6, 0) ((mi (7, 0, 0) 0).toNatClampNeg) k) (8, 7, 0) (((k_ui mi (8, 6, 0) ((mi (7, 0, 0) 0).toNatClampNeg) k) (7, 0, 0) 0).toNatClampNeg) a) (7, 0, 0) 0).toNatClampNeg) ms) (8, 9, 0) (((k_ui (k_ui (k_ui mi (8, 6, 0) ((mi (7, 0, 0) 0).toNatClampNeg) k) (8, 7, 0) (((k_ui mi (8, 6, 0) ((mi (7, 0, 0) 0).toNatClampNeg) k) (7, 0, 0) 0).toNatClampNeg) a) (8, 8, 0) (((k_ui (k_ui mi (8, 6, 0) ((mi (7, 0, 0) 0).toNatClampNeg) k) (8, 7, 0) (((k_ui mi (8, 6, 0) ((mi (7, 0, 0) 0).toNatClampNeg) k) (7, 0, 0) 0).toNatClampNeg) a) (7, 0, 0) 0).toNatClampNeg) ms) (7, 0, 0) 0).toNatClampNeg) h) (7, 0, 0) 0).toNatClampNeg) 0) (7, 0, 0) 0).toNatClampNeg) 0) (7, 0, 0) 0).toNatClampNeg) 0) (7, 0, 0) 0, k_ui (k_ui (k_ui (k_ui (k_ui (k_ui (k_ui (k_ui mi (8, 6, 0) ((mi (7, 0, 0) 0).toNatClampNeg) k) (8, 7, 0) (((k_ui mi (8, 6, 0) ((mi (7, 0, 0) 0).toNatClampNeg) k) (7, 0, 0) 0).toNatClampNeg) a) (8, 8, 0) (((k_ui (k_ui mi (8, 6, 0) ((mi (7, 0, 0) 0).toNatClampNeg) k) (8, 7, 0) (((k_ui mi (8, 6, 0) ((mi (7, 0, 0) 0).toNatClampNeg) k) (7, 0, 0) 0).toNatClampNeg) a) (7, 0, 0) 0).toNatClampNeg) ms) (8, 9, 0) (((k_ui (k_ui (k_ui mi (8, 6, 0) ((mi (7, 0, 0) 0).toNatClampNeg) k) (8, 7, 0) (((k_ui mi (8, 6, 0) ((mi (7, 0, 0) 0).toNatClampNeg) k) (7, 0, 0) 0).toNatClampNeg) a) (8, 8, 0) (((k_ui (k_ui mi (8, 6, 0) ((mi (7, 0, 0) 0).toNatClampNeg) k) (8, 7, 0) (((k_ui mi (8, 6, 0) ((mi (7, 0, 0) 0).toNatClampNeg) k) (7, 0, 0) 0).toNatClampNeg) a) (7, 0, 0) 0).toNatClampNeg) ms) (7, 0, 0) 0).toNatClampNeg) h) (8, 10, 0) (((k_ui (k_ui (k_ui (k_ui mi (8, 6, 0) ((mi (7, 0, 0) 0).toNatClampNeg) k) (8, 7, 0) (((k_ui mi (8, 6, 0) ((mi (7, 0, 0) 0).toNatClampNeg) k) (7, 0, 0) 0).toNatClampNeg) a) (8, 8, 0) (((k_ui (k_ui mi (8, 6, 0) ((mi (7, 0, 0) 0).toNatClampNeg) k) (8, 7, 0) (((k_ui mi (8, 6, 0) ((mi (7, 0, 0) 0).toNatClampNeg) k) (7, 0, 0) 0).toNatClampNeg) a) (7, 0, 0) 0).toNatClampNeg) ms) (8, 9, 0) (((k_ui (k_ui (k_ui mi (8, 6, 0) ((mi (7, 0, 0) 0).toNatClampNeg) k) (8, 7, 0) (((k_ui mi (8, 6, 0) ((mi (7, 0, 0) 0).toNatClampNeg) k) (7, 0, 0) 0).toNatClampNeg) a) (8, 8, 0) (((k_ui (k_ui mi (8, 6, 0) ((mi (7, 0, 0) 0).toNatClampNeg) k) (8, 7, 0) (((k_ui mi (8, 6, 0) ((mi (7, 0, 0) 0).toNatClampNeg) k) (7, 0, 0) 0).toNatClampNeg) a) (7, 0, 0) 0).toNatClampNeg) ms) (7, 0, 0) 0).toNatClampNeg) h) (7, 0, 0) 0).toNatClampNeg) 0) (8, 11, 0) (((k_ui (k_ui (k_ui (k_ui (k_ui mi (8, 6, 0) ((mi (7, 0, 0) 0).toNatClampNeg) k) (8, 7, 0) (((k_ui mi (8, 6, 0) ((mi (7, 0, 0) 0).toNatClampNeg) k) (7, 0, 0) 0).toNatClampNeg) a) (8, 8, 0) (((k_ui (k_ui mi (8, 6, 0) ((mi (7, 0, 0) 0).toNatClampNeg) k) (8, 7, 0) (((k_ui mi (8, 6, 0) ((mi (7, 0, 0) 0).toNatClampNeg) k) (7, 0, 0) 0).toNatClampNeg) a) (7, 0, 0) 0).toNatClampNeg) ms) (8, 9, 0) (((k_ui (k_ui (k_ui mi (8, 6, 0) ((mi (7, 0, 0) 0).toNatClampNeg) k) (8, 7, 0) (((k_ui mi (8, 6, 0) ((mi (7, 0, 0) 0).toNatClampNeg) k) (7, 0, 0) 0).toNatClampNeg) a) (8, 8, 0) (((k_ui (k_ui mi (8, 6, 0) ((mi (7, 0, 0) 0).toNatClampNeg) k) (8, 7, 0) (((k_ui mi (8, 6, 0) ((mi (7, 0, 0) 0).toNatClampNeg) k) (7, 0, 0) 0).toNatClampNeg) a) (7, 0, 0) 0).toNatClampNeg) ms) (7, 0, 0) 0).toNatClampNeg) h) (8, 10, 0) (((k_ui (k_ui (k_ui (k_ui mi (8, 6, 0) ((mi (7, 0, 0) 0).toNatClampNeg) k) (8, 7, 0) (((k_ui mi (8, 6, 0) ((mi (7, 0, 0) 0).toNatClampNeg) k) (7, 0, 0) 0).toNatClampNeg) a) (8, 8, 0) (((k_ui (k_ui mi (8, 6, 0) ((mi (7, 0, 0) 0).toNatClampNeg) k) (8, 7, 0) (((k_ui mi (8, 6, 0) ((mi (7, 0, 0) 0).toNatClampNeg) k) (7, 0, 0) 0).toNatClampNeg) a) (7, 0, 0) 0).toNatClampNeg) ms) (8, 9, 0) (((k_ui (k_ui (k_ui mi (8, 6, 0) ((mi (7, 0, 0) 0).toNatClampNeg) k) (8, 7, 0) (((k_ui mi (8, 6, 0) ((mi (7, 0, 0) 0).toNatClampNeg) k) (7, 0, 0) 0).toNatClampNeg) a) (8, 8, 0) (((k_ui (k_ui mi (8, 6, 0) ((mi (7, 0, 0) 0).toNatClampNeg) k) (8, 7, 0) (((k_ui mi (8, 6, 0) ((mi (7, 0, 0) 0).toNatClampNeg) k) (7, 0, 0) 0).toNatClampNeg) a) (7, 0, 0) 0).toNatClampNeg) ms) (7, 0, 0) 0).toNatClampNeg) h) (7, 0, 0) 0).toNatClampNeg) 0) (7, 0, 0) 0).toNatClampNeg) 0) (8, 12, 0) (((k_ui (k_ui (k_ui (k_ui (k_ui (k_ui mi (8, 6, 0) ((mi (7, 0, 0) 0).toNatClampNeg) k) (8, 7, 0) (((k_ui mi (8, 6, 0) ((mi (7, 0, 0) 0).toNatClampNeg) k) (7, 0, 0) 0).toNatClampNeg) a) (8, 8, 0) (((k_ui (k_ui mi (8, 6, 0) ((mi (7, 0, 0) 0).toNatClampNeg) k) (8, 7, 0) (((k_ui mi (8, 6, 0) ((mi (7, 0, 0) 0).toNatClampNeg) k) (7, 0, 0) 0).toNatClampNeg) a) (7, 0, 0) 0).toNatClampNeg) ms) (8, 9, 0) (((k_ui (k_ui (k_ui mi (8, 6, 0) ((mi (7, 0, 0) 0).toNatClampNeg) k) (8, 7, 0) (((k_ui mi (8, 6, 0) ((mi (7, 0, 0) 0).toNatClampNeg) k) (7, 0, 0) 0).toNatClampNeg) a) (8, 8, 0) (((k_ui (k_ui mi (8, 6, 0) ((mi (7, 0, 0) 0).toNatClampNeg) k) (8, 7, 0) (((k_ui mi (8, 6, 0) ((mi (7, 0, 0) 0).toNatClampNeg) k) (7, 0, 0) 0).toNatClampNeg) a) (7, 0, 0) 0).toNatClampNeg) ms) (7, 0, 0) 0).toNatClampNeg) h) (8, 10, 0) (((k_ui (k_ui (k_ui (k_ui mi (8, 6, 0) ((mi (7, 0, 0) 0).toNatClampNeg) k) (8, 7, 0) (((k_ui mi (8, 6, 0) ((mi (7, 0, 0) 0).toNatClampNeg) k) (7, 0, 0) 0).toNatClampNeg) a) (8, 8, 0) (((k_ui (k_ui mi (8, 6, 0) ((mi (7, 0, 0) 0).toNatClampNeg) k) (8, 7, 0) (((k_ui mi (8, 6, 0) ((mi (7, 0, 0) 0).toNatClampNeg) k) (7, 0, 0) 0).toNatClampNeg) a) (7, 0, 0) 0).toNatClampNeg) ms) (8, 9, 0) (((k_ui (k_ui (k_ui mi (8, 6, 0) ((mi (7, 0, 0) 0).toNatClampNeg) k) (8, 7, 0) (((k_ui mi (8, 6, 0) ((mi (7, 0, 0) 0).toNatClampNeg) k) (7, 0, 0) 0).toNatClampNeg) a) (8, 8, 0) (((k_ui (k_ui mi (8, 6, 0) ((mi (7, 0, 0) 0).toNatClampNeg) k) (8, 7, 0) (((k_ui mi (8, 6, 0) ((mi (7, 0, 0) 0).toNatClampNeg) k) (7, 0, 0) 0).toNatClampNeg) a) (7, 0, 0) 0).toNatClampNeg) ms) (7, 0, 0) 0).toNatClampNeg) h) (7, 0, 0) 0).toNatClampNeg) 0) (8, 11, 0) (((k_ui (k_ui (k_ui (k_ui (k_ui mi (8, 6, 0) ((mi (7, 0, 0) 0).toNatClampNeg) k) (8, 7, 0) (((k_ui mi (8, 6, 0) ((mi (7, 0, 0) 0).toNatClampNeg) k) (7, 0, 0) 0).toNatClampNeg) a) (8, 8, 0) (((k_ui (k_ui mi (8, 6, 0) ((mi (7, 0, 0) 0).toNatClampNeg) k) (8, 7, 0) (((k_ui mi (8, 6, 0) ((mi (7, 0, 0) 0).toNatClampNeg) k) (7, 0, 0) 0).toNatClampNeg) a) (7, 0, 0) 0).toNatClampNeg) ms) (8, 9, 0) (((k_ui (k_ui (k_ui mi (8, 6, 0) ((mi (7, 0, 0) 0).toNatClampNeg) k) (8, 7, 0) (((k_ui mi (8, 6, 0) ((mi (7, 0, 0) 0).toNatClampNeg) k) (7, 0, 0) 0).toNatClampNeg) a) (8, 8, 0) (((k_ui (k_ui mi (8, 6, 0) ((mi (7, 0, 0) 0).toNatClampNeg) k) (8, 7, 0) (((k_ui mi (8, 6, 0) ((mi (7, 0, 0) 0).toNatClampNeg) k) (7, 0, 0) 0).toNatClampNeg) a) (7, 0, 0) 0).toNatClampNeg) ms) (7, 0, 0) 0).toNatClampNeg) h) (8, 10, 0) (((k_ui (k_ui (k_ui (k_ui mi (8, 6, 0) ((mi (7, 0, 0) 0).toNatClampNeg) k) (8, 7, 0) (((k_ui mi (8, 6, 0) ((mi (7, 0, 0) 0).toNatClampNeg) k) (7, 0, 0) 0).toNatClampNeg) a) (8, 8, 0) (((k_ui (k_ui mi (8, 6, 0) ((mi (7, 0, 0) 0).toNatClampNeg) k) (8, 7, 0) (((k_ui mi (8, 6, 0) ((mi (7, 0, 0) 0).toNatClampNeg) k) (7, 0, 0) 0).toNatClampNeg) a) (7, 0, 0) 0).toNatClampNeg) ms) (8, 9, 0) (((k_ui (k_ui (k_ui mi (8, 6, 0) ((mi (7, 0, 0) 0).toNatClampNeg) k) (8, 7, 0) (((k_ui mi (8, 6, 0) ((mi (7, 0, 0) 0).toNatClampNeg) k) (7, 0, 0) 0).toNatClampNeg) a) (8, 8, 0) (((k_ui (k_ui mi (8, 6, 0) ((mi (7, 0, 0) 0).toNatClampNeg) k) (8, 7, 0) (((k_ui mi (8, 6, 0) ((mi (7, 0, 0) 0).toNatClampNeg) k) (7, 0, 0) 0).toNatClampNeg) a) (7, 0, 0) 0).toNatClampNeg) ms) (7, 0, 0) 0).toNatClampNeg) h) (7, 0, 0) 0).toNatClampNeg) 0) (7, 0, 0) 0).toNatClampNeg) 0) (7, 0, 0) 0).toNatClampNeg) 0) (7, 0, 0) 0 (((k_ui (k_ui (k_ui (k_ui (k_ui (k_ui (k_ui mi (8, 6, 0) ((mi (7, 0, 0) 0).toNatClampNeg) k) (8, 7, 0) (((k_ui mi (8, 6, 0) ((mi (7, 0, 0) 0).toNatClampNeg) k) (7, 0, 0) 0).toNatClampNeg) a) (8, 8, 0) (((k_ui (k_ui mi (8, 6, 0) ((mi (7, 0, 0) 0).toNatClampNeg) k) (8, 7, 0) (((k_ui mi (8, 6, 0) ((mi (7, 0, 0) 0).toNatClampNeg) k) (7, 0, 0) 0).toNatClampNeg) a) (7, 0, 0) 0).toNatClampNeg) ms) (8, 9, 0) (((k_ui (k_ui (k_ui mi (8, 6, 0) ((mi (7, 0, 0) 0).toNatClampNeg) k) (8, 7, 0) (((k_ui mi (8, 6, 0) ((mi (7, 0, 0) 0).toNatClampNeg) k) (7, 0, 0) 0).toNatClampNeg) a) (8, 8, 0) (((k_ui (k_ui mi (8, 6, 0) ((mi (7, 0, 0) 0).toNatClampNeg) k) (8, 7, 0) (((k_ui mi (8, 6, 0) ((mi (7, 0, 0) 0).toNatClampNeg) k) (7, 0, 0) 0).toNatClampNeg) a) (7, 0, 0) 0).toNatClampNeg) ms) (7, 0, 0) 0).toNatClampNeg) h) (8, 10, 0) (((k_ui (k_ui (k_ui (k_ui mi (8, 6, 0) ((mi (7, 0, 0) 0).toNatClampNeg) k) (8, 7, 0) (((k_ui mi (8, 6, 0) ((mi (7, 0, 0) 0).toNatClampNeg) k) (7, 0, 0) 0).toNatClampNeg) a) (8, 8, 0) (((k_ui (k_ui mi (8, 6, 0) ((mi (7, 0, 0) 0).toNatClampNeg) k) (8, 7, 0) (((k_ui mi (8, 6, 0) ((mi (7, 0, 0) 0).toNatClampNeg) k) (7, 0, 0) 0).toNatClampNeg) a) (7, 0, 0) 0).toNatClampNeg) ms) (8, 9, 0) (((k_ui (k_ui (k_ui mi (8, 6, 0) ((mi (7, 0, 0) 0).toNatClampNeg) k) (8, 7, 0) (((k_ui mi (8, 6, 0) ((mi (7, 0, 0) 0).toNatClampNeg) k) (7, 0, 0) 0).toNatClampNeg) a) (8, 8, 0) (((k_ui (k_ui mi (8, 6, 0) ((mi (7, 0, 0) 0).toNatClampNeg) k) (8, 7, 0) (((k_ui mi (8, 6, 0) ((mi (7, 0, 0) 0).toNatClampNeg) k) (7, 0, 0) 0).toNatClampNeg) a) (7, 0, 0) 0).toNatClampNeg) ms) (7, 0, 0) 0).toNatClampNeg) h) (7, 0, 0) 0).toNatClampNeg) 0) (8, 11, 0) (((k_ui (k_ui (k_ui (k_ui (k_ui mi (8, 6, 0) ((mi (7, 0, 0) 0).toNatClampNeg) k) (8, 7, 0) (((k_ui mi (8, 6, 0) ((mi (7, 0, 0) 0).toNatClampNeg) k) (7, 0, 0) 0).toNatClampNeg) a) (8, 8, 0) (((k_ui (k_ui mi (8, 6, 0) ((mi (7, 0, 0) 0).toNatClampNeg) k) (8, 7, 0) (((k_ui mi (8, 6, 0) ((mi (7, 0, 0) 0).toNatClampNeg) k) (7, 0, 0) 0).toNatClampNeg) a) (7, 0, 0) 0).toNatClampNeg) ms) (8, 9, 0) (((k_ui (k_ui (k_ui mi (8, 6, 0) ((mi (7, 0, 0) 0).toNatClampNeg) k) (8, 7, 0) (((k_ui mi (8, 6, 0) ((mi (7, 0, 0) 0).toNatClampNeg) k) (7, 0, 0) 0).toNatClampNeg) a) (8, 8, 0) (((k_ui (k_ui mi (8, 6, 0) ((mi (7, 0, 0) 0).toNatClampNeg) k) (8, 7, 0) (((k_ui mi (8, 6, 0) ((mi (7, 0, 0) 0).toNatClampNeg) k) (7, 0, 0) 0).toNatClampNeg) a) (7, 0, 0) 0).toNatClampNeg) ms) (7, 0, 0) 0).toNatClampNeg) h) (8, 10, 0) (((k_ui (k_ui (k_ui (k_ui mi (8, 6, 0) ((mi (7, 0, 0) 0).toNatClampNeg) k) (8, 7, 0) (((k_ui mi (8, 6, 0) ((mi (7, 0, 0) 0).toNatClampNeg) k) (7, 0, 0) 0).toNatClampNeg) a) (8, 8, 0) (((k_ui (k_ui mi (8, 6, 0) ((mi (7, 0, 0) 0).toNatClampNeg) k) (8, 7, 0) (((k_ui mi (8, 6, 0) ((mi (7, 0, 0) 0).toNatClampNeg) k) (7, 0, 0) 0).toNatClampNeg) a) (7, 0, 0) 0).toNatClampNeg) ms) (8, 9, 0) (((k_ui (k_ui (k_ui mi (8, 6, 0) ((mi (7, 0, 0) 0).toNatClampNeg) k) (8, 7, 0) (((k_ui mi (8, 6, 0) ((mi (7, 0, 0) 0).toNatClampNeg) k) (7, 0, 0) 0).toNatClampNeg) a) (8, 8, 0) (((k_ui (k_ui mi (8, 6, 0) ((mi (7, 0, 0) 0).toNatClampNeg) k) (8, 7, 0) (((k_ui mi (8, 6, 0) ((mi (7, 0, 0) 0).toNatClampNeg) k) (7, 0, 0) 0).toNatClampNeg) a) (7, 0, 0) 0).toNatClampNeg) ms) (7, 0, 0) 0).toNatClampNeg) h) (7, 0, 0) 0).toNatClampNeg) 0) (7, 0, 0) 0).toNatClampNeg) 0) (8, 12, 0) (((k_ui (k_ui (k_ui (k_ui (k_ui (k_ui mi (8, 6, 0) ((mi (7, 0, 0) 0).toNatClampNeg) k) (8, 7, 0) (((k_ui mi (8, 6, 0) ((mi (7, 0, 0) 0).toNatClampNeg) k) (7, 0, 0) 0).toNatClampNeg) a) (8, 8, 0) (((k_ui (k_ui mi (8, 6, 0) ((mi (7, 0, 0) 0).toNatClampNeg) k) (8, 7, 0) (((k_ui mi (8, 6, 0) ((mi (7, 0, 0) 0).toNatClampNeg) k) (7, 0, 0) 0).toNatClampNeg) a) (7, 0, 0) 0).toNatClampNeg) ms) (8, 9, 0) (((k_ui (k_ui (k_ui mi (8, 6, 0) ((mi (7, 0, 0) 0).toNatClampNeg) k) (8, 7, 0) (((k_ui mi (8, 6, 0) ((mi (7, 0, 0) 0).toNatClampNeg) k) (7, 0, 0) 0).toNatClampNeg) a) (8, 8, 0) (((k_ui (k_ui mi (8, 6, 0) ((mi (7, 0, 0) 0).toNatClampNeg) k) (8, 7, 0) (((k_ui mi (8, 6, 0) ((mi (7, 0, 0) 0).toNatClampNeg) k) (7, 0, 0) 0).toNatClampNeg) a) (7, 0, 0) 0).toNatClampNeg) ms) (7, 0, 0) 0).toNatClampNeg) h) (8, 10, 0) (((k_ui (k_ui (k_ui (k_ui mi (8, 6, 0) ((mi (7, 0, 0) 0).toNatClampNeg) k) (8, 7, 0) (((k_ui mi (8, 6, 0) ((mi (7, 0, 0) 0).toNatClampNeg) k) (7, 0, 0) 0).toNatClampNeg) a) (8, 8, 0) (((k_ui (k_ui mi (8, 6, 0) ((mi (7, 0, 0) 0).toNatClampNeg) k) (8, 7, 0) (((k_ui mi (8, 6, 0) ((mi (7, 0, 0) 0).toNatClampNeg) k) (7, 0, 0) 0).toNatClampNeg) a) (7, 0, 0) 0).toNatClampNeg) ms) (8, 9, 0) (((k_ui (k_ui (k_ui mi (8, 6, 0) ((mi (7, 0, 0) 0).toNatClampNeg) k) (8, 7, 0) (((k_ui mi (8, 6, 0) ((mi (7, 0, 0) 0).toNatClampNeg) k) (7, 0, 0) 0).toNatClampNeg) a) (8, 8, 0) (((k_ui (k_ui mi (8, 6, 0) ((mi (7, 0, 0) 0).toNatClampNeg) k) (8, 7, 0) (((k_ui mi (8, 6, 0) ((mi (7, 0, 0) 0).toNatClampNeg) k) (7, 0, 0) 0).toNatClampNeg) a) (7, 0, 0) 0).toNatClampNeg) ms) (7, 0, 0) 0).toNatClampNeg) h) (7, 0, 0) 0).toNatClampNeg) 0) (8, 11, 0) (((k_ui (k_ui (k_ui (k_ui (k_ui mi (8, 6, 0) ((mi (7, 0, 0) 0).toNatClampNeg) k) (8, 7, 0) (((k_ui mi (8, 6, 0) ((mi (7, 0, 0) 0).toNatClampNeg) k) (7, 0, 0) 0).toNatClampNeg) a) (8, 8, 0) (((k_ui (k_ui mi (8, 6, 0) ((mi (7, 0, 0) 0).toNatClampNeg) k) (8, 7, 0) (((k_ui mi (8, 6, 0) ((mi (7, 0, 0) 0).toNatClampNeg) k) (7, 0, 0) 0).toNatClampNeg) a) (7, 0, 0) 0).toNatClampNeg) ms) (8, 9, 0) (((k_ui (k_ui (k_ui mi (8, 6, 0) ((mi (7, 0, 0) 0).toNatClampNeg) k) (8, 7, 0) (((k_ui mi (8, 6, 0) ((mi (7, 0, 0) 0).toNatClampNeg) k) (7, 0, 0) 0).toNatClampNeg) a) (8, 8, 0) (((k_ui (k_ui mi (8, 6, 0) ((mi (7, 0, 0) 0).toNatClampNeg) k) (8, 7, 0) (((k_ui mi (8, 6, 0) ((mi (7, 0, 0) 0).toNatClampNeg) k) (7, 0, 0) 0).toNatClampNeg) a) (7, 0, 0) 0).toNatClampNeg) ms) (7, 0, 0) 0).toNatClampNeg) h) (8, 10, 0) (((k_ui (k_ui (k_ui (k_ui mi (8, 6, 0) ((mi (7, 0, 0) 0).toNatClampNeg) k) (8, 7, 0) (((k_ui mi (8, 6, 0) ((mi (7, 0, 0) 0).toNatClampNeg) k) (7, 0, 0) 0).toNatClampNeg) a) (8, 8, 0) (((k_ui (k_ui mi (8, 6, 0) ((mi (7, 0, 0) 0).toNatClampNeg) k) (8, 7, 0) (((k_ui mi (8, 6, 0) ((mi (7, 0, 0) 0).toNatClampNeg) k) (7, 0, 0) 0).toNatClampNeg) a) (7, 0, 0) 0).toNatClampNeg) ms) (8, 9, 0) (((k_ui (k_ui (k_ui mi (8, 6, 0) ((mi (7, 0, 0) 0).toNatClampNeg) k) (8, 7, 0) (((k_ui mi (8, 6, 0) ((mi (7, 0, 0) 0).toNatClampNeg) k) (7, 0, 0) 0).toNatClampNeg) a) (8, 8, 0) (((k_ui (k_ui mi (8, 6, 0) ((mi (7, 0, 0) 0).toNatClampNeg) k) (8, 7, 0) (((k_ui mi (8, 6, 0) ((mi (7, 0, 0) 0).toNatClampNeg) k) (7, 0, 0) 0).toNatClampNeg) a) (7, 0, 0) 0).toNatClampNeg) ms) (7, 0, 0) 0).toNatClampNeg) h) (7, 0, 0) 0).toNatClampNeg) 0) (7, 0, 0) 0).toNatClampNeg) 0) (7, 0, 0) 0).toNatClampNeg) 0) (7, 0, 0) 0) + 1))
set_option maxRecDepth 100000 in
set_option maxHeartbeats 4000000 in
theorem ct_X7_addsCitizen {mi : MemI} {ml : MemL} {k : Int32} {a : Int32} {ms : Int32} {h : Int32} (hc : vp_in (mi (7, 0, 0) 0) 6) : k_Ct k_KS k_R0 Mt_X7_addsCitizen 0 [vR (7, 0, 0), vI k, vI a, vI ms, vI h] mi ml (k_rt (some (vI (f_X7_addsCitizen mi k a ms h).1)) (f_X7_addsCitizen mi k a ms h).2 ml) := by
  refine k_ofV (L0 := [vR (7, 0, 0), vI k, vI a, vI ms, vI h]) (by decide +kernel) (Nat.le_of_ble_eq_true rfl) rfl rfl ?_
  intro p l e s m args below meth c D cy ad bs C
  refine k_aload_n (pc := 0) C dX7_addsCitizen_0 rfl ?_
  refine k_getR (pc := 1) (r := some (8, 6, 0)) C fl_X7_20 k_in7 rfl rfl rfl dX7_addsCitizen_1 ?_
  refine k_aload_n (pc := 4) C dX7_addsCitizen_4 rfl ?_
  refine k_getI (pc := 5) C fl_X7_129 k_in7 rfl rfl dX7_addsCitizen_5 ?_
  refine k_iload_n (pc := 8) C dX7_addsCitizen_8 rfl ?_
  refine k_iastX (pc := 9) (j := (mi (7, 0, 0) 0).toNatClampNeg) C rfl (by decide +kernel) rfl hc dX7_addsCitizen_9 ?_
  refine k_aload_n (pc := 10) C dX7_addsCitizen_10 rfl ?_
  refine k_getR (pc := 11) (r := some (8, 7, 0)) C fl_X7_23 k_in7 rfl rfl rfl dX7_addsCitizen_11 ?_
  refine k_aload_n (pc := 14) C dX7_addsCitizen_14 rfl ?_
  refine k_getI (pc := 15) C fl_X7_129 k_in7 rfl rfl dX7_addsCitizen_15 ?_
  refine k_iload_n (pc := 18) C dX7_addsCitizen_18 rfl ?_
  refine k_iastX (pc := 19) (j := ((k_ui mi (8, 6, 0) ((mi (7, 0, 0) 0).toNatClampNeg) k) (7, 0, 0) 0).toNatClampNeg) C rfl (by decide +kernel) rfl hc dX7_addsCitizen_19 ?_
  refine k_aload_n (pc := 20) C dX7_addsCitizen_20 rfl ?_
  refine k_getR (pc := 21) (r := some (8, 8, 0)) C fl_X7_26 k_in7 rfl rfl rfl dX7_addsCitizen_21 ?_
  refine k_aload_n (pc := 24) C dX7_addsCitizen_24 rfl ?_
  refine k_getI (pc := 25) C fl_X7_129 k_in7 rfl rfl dX7_addsCitizen_25 ?_
  refine k_iload_n (pc := 28) C dX7_addsCitizen_28 rfl ?_
  refine k_iastX (pc := 29) (j := ((k_ui (k_ui mi (8, 6, 0) ((mi (7, 0, 0) 0).toNatClampNeg) k) (8, 7, 0) (((k_ui mi (8, 6, 0) ((mi (7, 0, 0) 0).toNatClampNeg) k) (7, 0, 0) 0).toNatClampNeg) a) (7, 0, 0) 0).toNatClampNeg) C rfl (by decide +kernel) rfl hc dX7_addsCitizen_29 ?_
  refine k_aload_n (pc := 30) C dX7_addsCitizen_30 rfl ?_
  refine k_getR (pc := 31) (r := some (8, 9, 0)) C fl_X7_29 k_in7 rfl rfl rfl dX7_addsCitizen_31 ?_
  refine k_aload_n (pc := 34) C dX7_addsCitizen_34 rfl ?_
  refine k_getI (pc := 35) C fl_X7_129 k_in7 rfl rfl dX7_addsCitizen_35 ?_
  refine k_iload (pc := 38) C dX7_addsCitizen_38 rfl ?_
  refine k_iastX (pc := 40) (j := ((k_ui (k_ui (k_ui mi (8, 6, 0) ((mi (7, 0, 0) 0).toNatClampNeg) k) (8, 7, 0) (((k_ui mi (8, 6, 0) ((mi (7, 0, 0) 0).toNatClampNeg) k) (7, 0, 0) 0).toNatClampNeg) a) (8, 8, 0) (((k_ui (k_ui mi (8, 6, 0) ((mi (7, 0, 0) 0).toNatClampNeg) k) (8, 7, 0) (((k_ui mi (8, 6, 0) ((mi (7, 0, 0) 0).toNatClampNeg) k) (7, 0, 0) 0).toNatClampNeg) a) (7, 0, 0) 0).toNatClampNeg) ms) (7, 0, 0) 0).toNatClampNeg) C rfl (by decide +kernel) rfl hc dX7_addsCitizen_40 ?_
  refine k_aload_n (pc := 41) C dX7_addsCitizen_41 rfl ?_
  refine k_getR (pc := 42) (r := some (8, 10, 0)) C fl_X7_32 k_in7 rfl rfl rfl dX7_addsCitizen_42 ?_
  refine k_aload_n (pc := 45) C dX7_addsCitizen_45 rfl ?_
  refine k_getI (pc := 46) C fl_X7_129 k_in7 rfl rfl dX7_addsCitizen_46 ?_
  refine k_iconst (pc := 49) (v := 0) C dX7_addsCitizen_49 (by decide) ?_
  refine k_iastX (pc := 50) (j := ((k_ui (k_ui (k_ui (k_ui mi (8, 6, 0) ((mi (7, 0, 0) 0).toNatClampNeg) k) (8, 7, 0) (((k_ui mi (8, 6, 0) ((mi (7, 0, 0) 0).toNatClampNeg) k) (7, 0, 0) 0).toNatClampNeg) a) (8, 8, 0) (((k_ui (k_ui mi (8, 6, 0) ((mi (7, 0, 0) 0).toNatClampNeg) k) (8, 7, 0) (((k_ui mi (8, 6, 0) ((mi (7, 0, 0) 0).toNatClampNeg) k) (7, 0, 0) 0).toNatClampNeg) a) (7, 0, 0) 0).toNatClampNeg) ms) (8, 9, 0) (((k_ui (k_ui (k_ui mi (8, 6, 0) ((mi (7, 0, 0) 0).toNatClampNeg) k) (8, 7, 0) (((k_ui mi (8, 6, 0) ((mi (7, 0, 0) 0).toNatClampNeg) k) (7, 0, 0) 0).toNatClampNeg) a) (8, 8, 0) (((k_ui (k_ui mi (8, 6, 0) ((mi (7, 0, 0) 0).toNatClampNeg) k) (8, 7, 0) (((k_ui mi (8, 6, 0) ((mi (7, 0, 0) 0).toNatClampNeg) k) (7, 0, 0) 0).toNatClampNeg) a) (7, 0, 0) 0).toNatClampNeg) ms) (7, 0, 0) 0).toNatClampNeg) h) (7, 0, 0) 0).toNatClampNeg) C rfl (by decide +kernel) rfl hc dX7_addsCitizen_50 ?_
  refine k_aload_n (pc := 51) C dX7_addsCitizen_51 rfl ?_
  refine k_getR (pc := 52) (r := some (8, 11, 0)) C fl_X7_35 k_in7 rfl rfl rfl dX7_addsCitizen_52 ?_
  refine k_aload_n (pc := 55) C dX7_addsCitizen_55 rfl ?_
  refine k_getI (pc := 56) C fl_X7_129 k_in7 rfl rfl dX7_addsCitizen_56 ?_
  refine k_iconst (pc := 59) (v := 0) C dX7_addsCitizen_59 (by decide) ?_
  refine k_iastX (pc := 60) (j := ((k_ui (k_ui (k_ui (k_ui (k_ui mi (8, 6, 0) ((mi (7, 0, 0) 0).toNatClampNeg) k) (8, 7, 0) (((k_ui mi (8, 6, 0) ((mi (7, 0, 0) 0).toNatClampNeg) k) (7, 0, 0) 0).toNatClampNeg) a) (8, 8, 0) (((k_ui (k_ui mi (8, 6, 0) ((mi (7, 0, 0) 0).toNatClampNeg) k) (8, 7, 0) (((k_ui mi (8, 6, 0) ((mi (7, 0, 0) 0).toNatClampNeg) k) (7, 0, 0) 0).toNatClampNeg) a) (7, 0, 0) 0).toNatClampNeg) ms) (8, 9, 0) (((k_ui (k_ui (k_ui mi (8, 6, 0) ((mi (7, 0, 0) 0).toNatClampNeg) k) (8, 7, 0) (((k_ui mi (8, 6, 0) ((mi (7, 0, 0) 0).toNatClampNeg) k) (7, 0, 0) 0).toNatClampNeg) a) (8, 8, 0) (((k_ui (k_ui mi (8, 6, 0) ((mi (7, 0, 0) 0).toNatClampNeg) k) (8, 7, 0) (((k_ui mi (8, 6, 0) ((mi (7, 0, 0) 0).toNatClampNeg) k) (7, 0, 0) 0).toNatClampNeg) a) (7, 0, 0) 0).toNatClampNeg) ms) (7, 0, 0) 0).toNatClampNeg) h) (8, 10, 0) (((k_ui (k_ui (k_ui (k_ui mi (8, 6, 0) ((mi (7, 0, 0) 0).toNatClampNeg) k) (8, 7, 0) (((k_ui mi (8, 6, 0) ((mi (7, 0, 0) 0).toNatClampNeg) k) (7, 0, 0) 0).toNatClampNeg) a) (8, 8, 0) (((k_ui (k_ui mi (8, 6, 0) ((mi (7, 0, 0) 0).toNatClampNeg) k) (8, 7, 0) (((k_ui mi (8, 6, 0) ((mi (7, 0, 0) 0).toNatClampNeg) k) (7, 0, 0) 0).toNatClampNeg) a) (7, 0, 0) 0).toNatClampNeg) ms) (8, 9, 0) (((k_ui (k_ui (k_ui mi (8, 6, 0) ((mi (7, 0, 0) 0).toNatClampNeg) k) (8, 7, 0) (((k_ui mi (8, 6, 0) ((mi (7, 0, 0) 0).toNatClampNeg) k) (7, 0, 0) 0).toNatClampNeg) a) (8, 8, 0) (((k_ui (k_ui mi (8, 6, 0) ((mi (7, 0, 0) 0).toNatClampNeg) k) (8, 7, 0) (((k_ui mi (8, 6, 0) ((mi (7, 0, 0) 0).toNatClampNeg) k) (7, 0, 0) 0).toNatClampNeg) a) (7, 0, 0) 0).toNatClampNeg) ms) (7, 0, 0) 0).toNatClampNeg) h) (7, 0, 0) 0).toNatClampNeg) 0) (7, 0, 0) 0).toNatClampNeg) C rfl (by decide +kernel) rfl hc dX7_addsCitizen_60 ?_
  refine k_aload_n (pc := 61) C dX7_addsCitizen_61 rfl ?_
  refine k_getR (pc := 62) (r := some (8, 12, 0)) C fl_X7_38 k_in7 rfl rfl rfl dX7_addsCitizen_62 ?_
  refine k_aload_n (pc := 65) C dX7_addsCitizen_65 rfl ?_
  refine k_getI (pc := 66) C fl_X7_129 k_in7 rfl rfl dX7_addsCitizen_66 ?_
  refine k_iconst (pc := 69) (v := 0) C dX7_addsCitizen_69 (by decide) ?_
  refine k_iastX (pc := 70) (j := ((k_ui (k_ui (k_ui (k_ui (k_ui (k_ui mi (8, 6, 0) ((mi (7, 0, 0) 0).toNatClampNeg) k) (8, 7, 0) (((k_ui mi (8, 6, 0) ((mi (7, 0, 0) 0).toNatClampNeg) k) (7, 0, 0) 0).toNatClampNeg) a) (8, 8, 0) (((k_ui (k_ui mi (8, 6, 0) ((mi (7, 0, 0) 0).toNatClampNeg) k) (8, 7, 0) (((k_ui mi (8, 6, 0) ((mi (7, 0, 0) 0).toNatClampNeg) k) (7, 0, 0) 0).toNatClampNeg) a) (7, 0, 0) 0).toNatClampNeg) ms) (8, 9, 0) (((k_ui (k_ui (k_ui mi (8, 6, 0) ((mi (7, 0, 0) 0).toNatClampNeg) k) (8, 7, 0) (((k_ui mi (8, 6, 0) ((mi (7, 0, 0) 0).toNatClampNeg) k) (7, 0, 0) 0).toNatClampNeg) a) (8, 8, 0) (((k_ui (k_ui mi (8, 6, 0) ((mi (7, 0, 0) 0).toNatClampNeg) k) (8, 7, 0) (((k_ui mi (8, 6, 0) ((mi (7, 0, 0) 0).toNatClampNeg) k) (7, 0, 0) 0).toNatClampNeg) a) (7, 0, 0) 0).toNatClampNeg) ms) (7, 0, 0) 0).toNatClampNeg) h) (8, 10, 0) (((k_ui (k_ui (k_ui (k_ui mi (8, 6, 0) ((mi (7, 0, 0) 0).toNatClampNeg) k) (8, 7, 0) (((k_ui mi (8, 6, 0) ((mi (7, 0, 0) 0).toNatClampNeg) k) (7, 0, 0) 0).toNatClampNeg) a) (8, 8, 0) (((k_ui (k_ui mi (8, 6, 0) ((mi (7, 0, 0) 0).toNatClampNeg) k) (8, 7, 0) (((k_ui mi (8, 6, 0) ((mi (7, 0, 0) 0).toNatClampNeg) k) (7, 0, 0) 0).toNatClampNeg) a) (7, 0, 0) 0).toNatClampNeg) ms) (8, 9, 0) (((k_ui (k_ui (k_ui mi (8, 6, 0) ((mi (7, 0, 0) 0).toNatClampNeg) k) (8, 7, 0) (((k_ui mi (8, 6, 0) ((mi (7, 0, 0) 0).toNatClampNeg) k) (7, 0, 0) 0).toNatClampNeg) a) (8, 8, 0) (((k_ui (k_ui mi (8, 6, 0) ((mi (7, 0, 0) 0).toNatClampNeg) k) (8, 7, 0) (((k_ui mi (8, 6, 0) ((mi (7, 0, 0) 0).toNatClampNeg) k) (7, 0, 0) 0).toNatClampNeg) a) (7, 0, 0) 0).toNatClampNeg) ms) (7, 0, 0) 0).toNatClampNeg) h) (7, 0, 0) 0).toNatClampNeg) 0) (8, 11, 0) (((k_ui (k_ui (k_ui (k_ui (k_ui mi (8, 6, 0) ((mi (7, 0, 0) 0).toNatClampNeg) k) (8, 7, 0) (((k_ui mi (8, 6, 0) ((mi (7, 0, 0) 0).toNatClampNeg) k) (7, 0, 0) 0).toNatClampNeg) a) (8, 8, 0) (((k_ui (k_ui mi (8, 6, 0) ((mi (7, 0, 0) 0).toNatClampNeg) k) (8, 7, 0) (((k_ui mi (8, 6, 0) ((mi (7, 0, 0) 0).toNatClampNeg) k) (7, 0, 0) 0).toNatClampNeg) a) (7, 0, 0) 0).toNatClampNeg) ms) (8, 9, 0) (((k_ui (k_ui (k_ui mi (8, 6, 0) ((mi (7, 0, 0) 0).toNatClampNeg) k) (8, 7, 0) (((k_ui mi (8, 6, 0) ((mi (7, 0, 0) 0).toNatClampNeg) k) (7, 0, 0) 0).toNatClampNeg) a) (8, 8, 0) (((k_ui (k_ui mi (8, 6, 0) ((mi (7, 0, 0) 0).toNatClampNeg) k) (8, 7, 0) (((k_ui mi (8, 6, 0) ((mi (7, 0, 0) 0).toNatClampNeg) k) (7, 0, 0) 0).toNatClampNeg) a) (7, 0, 0) 0).toNatClampNeg) ms) (7, 0, 0) 0).toNatClampNeg) h) (8, 10, 0) (((k_ui (k_ui (k_ui (k_ui mi (8, 6, 0) ((mi (7, 0, 0) 0).toNatClampNeg) k) (8, 7, 0) (((k_ui mi (8, 6, 0) ((mi (7, 0, 0) 0).toNatClampNeg) k) (7, 0, 0) 0).toNatClampNeg) a) (8, 8, 0) (((k_ui (k_ui mi (8, 6, 0) ((mi (7, 0, 0) 0).toNatClampNeg) k) (8, 7, 0) (((k_ui mi (8, 6, 0) ((mi (7, 0, 0) 0).toNatClampNeg) k) (7, 0, 0) 0).toNatClampNeg) a) (7, 0, 0) 0).toNatClampNeg) ms) (8, 9, 0) (((k_ui (k_ui (k_ui mi (8, 6, 0) ((mi (7, 0, 0) 0).toNatClampNeg) k) (8, 7, 0) (((k_ui mi (8, 6, 0) ((mi (7, 0, 0) 0).toNatClampNeg) k) (7, 0, 0) 0).toNatClampNeg) a) (8, 8, 0) (((k_ui (k_ui mi (8, 6, 0) ((mi (7, 0, 0) 0).toNatClampNeg) k) (8, 7, 0) (((k_ui mi (8, 6, 0) ((mi (7, 0, 0) 0).toNatClampNeg) k) (7, 0, 0) 0).toNatClampNeg) a) (7, 0, 0) 0).toNatClampNeg) ms) (7, 0, 0) 0).toNatClampNeg) h) (7, 0, 0) 0).toNatClampNeg) 0) (7, 0, 0) 0).toNatClampNeg) 0) (7, 0, 0) 0).toNatClampNeg) C rfl (by decide +kernel) rfl hc dX7_addsCitizen_70 ?_
  refine k_aload_n (pc := 71) C dX7_addsCitizen_71 rfl ?_
  refine k_dup (pc := 72) C dX7_addsCitizen_72 rfl ?_
  refine k_getI (pc := 73) C fl_X7_129 k_in7 rfl rfl dX7_addsCitizen_73 ?_
  refine k_dup_x1 (pc := 76) C dX7_addsCitizen_76 rfl rfl ?_
  refine k_iconst (pc := 77) (v := 1) C dX7_addsCitizen_77 (by decide) ?_
  refine k_iadd (pc := 78) C dX7_addsCitizen_78 ?_
  refine k_putI (pc := 79) C pl_X7_129 k_in7 rfl rfl dX7_addsCitizen_79 ?_
  exact k_iret (pc := 82) C rfl (k_fIm rfl) dX7_addsCitizen_82
def f_X7_addsBeggar (mi : MemI) (n : Int32) (r : Int32) : Int32 × MemI :=
  ((k_ui (k_ui (k_ui (k_ui (k_ui mi (8, 13, 0) ((mi (7, 0, 0) 1).toNatClampNeg) n) (8, 14, 0) (((k_ui mi (8, 13, 0) ((mi (7, 0, 0) 1).toNatClampNeg) n) (7, 0, 0) 1).toNatClampNeg) r) (8, 15, 0) (((k_ui (k_ui mi (8, 13, 0) ((mi (7, 0, 0) 1).toNatClampNeg) n) (8, 14, 0) (((k_ui mi (8, 13, 0) ((mi (7, 0, 0) 1).toNatClampNeg) n) (7, 0, 0) 1).toNatClampNeg) r) (7, 0, 0) 1).toNatClampNeg) (-1)) (8, 16, 0) (((k_ui (k_ui (k_ui mi (8, 13, 0) ((mi (7, 0, 0) 1).toNatClampNeg) n) (8, 14, 0) (((k_ui mi (8, 13, 0) ((mi (7, 0, 0) 1).toNatClampNeg) n) (7, 0, 0) 1).toNatClampNeg) r) (8, 15, 0) (((k_ui (k_ui mi (8, 13, 0) ((mi (7, 0, 0) 1).toNatClampNeg) n) (8, 14, 0) (((k_ui mi (8, 13, 0) ((mi (7, 0, 0) 1).toNatClampNeg) n) (7, 0, 0) 1).toNatClampNeg) r) (7, 0, 0) 1).toNatClampNeg) (-1)) (7, 0, 0) 1).toNatClampNeg) 0) (8, 17, 0) (((k_ui (k_ui (k_ui (k_ui mi (8, 13, 0) ((mi (7, 0, 0) 1).toNatClampNeg) n) (8, 14, 0) (((k_ui mi (8, 13, 0) ((mi (7, 0, 0) 1).toNatClampNeg) n) (7, 0, 0) 1).toNatClampNeg) r) (8, 15, 0) (((k_ui (k_ui mi (8, 13, 0) ((mi (7, 0, 0) 1).toNatClampNeg) n) (8, 14, 0) (((k_ui mi (8, 13, 0) ((mi (7, 0, 0) 1).toNatClampNeg) n) (7, 0, 0) 1).toNatClampNeg) r) (7, 0, 0) 1).toNatClampNeg) (-1)) (8, 16, 0) (((k_ui (k_ui (k_ui mi (8, 13, 0) ((mi (7, 0, 0) 1).toNatClampNeg) n) (8, 14, 0) (((k_ui mi (8, 13, 0) ((mi (7, 0, 0) 1).toNatClampNeg) n) (7, 0, 0) 1).toNatClampNeg) r) (8, 15, 0) (((k_ui (k_ui mi (8, 13, 0) ((mi (7, 0, 0) 1).toNatClampNeg) n) (8, 14, 0) (((k_ui mi (8, 13, 0) ((mi (7, 0, 0) 1).toNatClampNeg) n) (7, 0, 0) 1).toNatClampNeg) r) (7, 0, 0) 1).toNatClampNeg) (-1)) (7, 0, 0) 1).toNatClampNeg) 0) (7, 0, 0) 1).toNatClampNeg) 0) (7, 0, 0) 1, k_ui (k_ui (k_ui (k_ui (k_ui (k_ui mi (8, 13, 0) ((mi (7, 0, 0) 1).toNatClampNeg) n) (8, 14, 0) (((k_ui mi (8, 13, 0) ((mi (7, 0, 0) 1).toNatClampNeg) n) (7, 0, 0) 1).toNatClampNeg) r) (8, 15, 0) (((k_ui (k_ui mi (8, 13, 0) ((mi (7, 0, 0) 1).toNatClampNeg) n) (8, 14, 0) (((k_ui mi (8, 13, 0) ((mi (7, 0, 0) 1).toNatClampNeg) n) (7, 0, 0) 1).toNatClampNeg) r) (7, 0, 0) 1).toNatClampNeg) (-1)) (8, 16, 0) (((k_ui (k_ui (k_ui mi (8, 13, 0) ((mi (7, 0, 0) 1).toNatClampNeg) n) (8, 14, 0) (((k_ui mi (8, 13, 0) ((mi (7, 0, 0) 1).toNatClampNeg) n) (7, 0, 0) 1).toNatClampNeg) r) (8, 15, 0) (((k_ui (k_ui mi (8, 13, 0) ((mi (7, 0, 0) 1).toNatClampNeg) n) (8, 14, 0) (((k_ui mi (8, 13, 0) ((mi (7, 0, 0) 1).toNatClampNeg) n) (7, 0, 0) 1).toNatClampNeg) r) (7, 0, 0) 1).toNatClampNeg) (-1)) (7, 0, 0) 1).toNatClampNeg) 0) (8, 17, 0) (((k_ui (k_ui (k_ui (k_ui mi (8, 13, 0) ((mi (7, 0, 0) 1).toNatClampNeg) n) (8, 14, 0) (((k_ui mi (8, 13, 0) ((mi (7, 0, 0) 1).toNatClampNeg) n) (7, 0, 0) 1).toNatClampNeg) r) (8, 15, 0) (((k_ui (k_ui mi (8, 13, 0) ((mi (7, 0, 0) 1).toNatClampNeg) n) (8, 14, 0) (((k_ui mi (8, 13, 0) ((mi (7, 0, 0) 1).toNatClampNeg) n) (7, 0, 0) 1).toNatClampNeg) r) (7, 0, 0) 1).toNatClampNeg) (-1)) (8, 16, 0) (((k_ui (k_ui (k_ui mi (8, 13, 0) ((mi (7, 0, 0) 1).toNatClampNeg) n) (8, 14, 0) (((k_ui mi (8, 13, 0) ((mi (7, 0, 0) 1).toNatClampNeg) n) (7, 0, 0) 1).toNatClampNeg) r) (8, 15, 0) (((k_ui (k_ui mi (8, 13, 0) ((mi (7, 0, 0) 1).toNatClampNeg) n) (8, 14, 0) (((k_ui mi (8, 13, 0) ((mi (7, 0, 0) 1).toNatClampNeg) n) (7, 0, 0) 1).toNatClampNeg) r) (7, 0, 0) 1).toNatClampNeg) (-1)) (7, 0, 0) 1).toNatClampNeg) 0) (7, 0, 0) 1).toNatClampNeg) 0) (7, 0, 0) 1 (((k_ui (k_ui (k_ui (k_ui (k_ui mi (8, 13, 0) ((mi (7, 0, 0) 1).toNatClampNeg) n) (8, 14, 0) (((k_ui mi (8, 13, 0) ((mi (7, 0, 0) 1).toNatClampNeg) n) (7, 0, 0) 1).toNatClampNeg) r) (8, 15, 0) (((k_ui (k_ui mi (8, 13, 0) ((mi (7, 0, 0) 1).toNatClampNeg) n) (8, 14, 0) (((k_ui mi (8, 13, 0) ((mi (7, 0, 0) 1).toNatClampNeg) n) (7, 0, 0) 1).toNatClampNeg) r) (7, 0, 0) 1).toNatClampNeg) (-1)) (8, 16, 0) (((k_ui (k_ui (k_ui mi (8, 13, 0) ((mi (7, 0, 0) 1).toNatClampNeg) n) (8, 14, 0) (((k_ui mi (8, 13, 0) ((mi (7, 0, 0) 1).toNatClampNeg) n) (7, 0, 0) 1).toNatClampNeg) r) (8, 15, 0) (((k_ui (k_ui mi (8, 13, 0) ((mi (7, 0, 0) 1).toNatClampNeg) n) (8, 14, 0) (((k_ui mi (8, 13, 0) ((mi (7, 0, 0) 1).toNatClampNeg) n) (7, 0, 0) 1).toNatClampNeg) r) (7, 0, 0) 1).toNatClampNeg) (-1)) (7, 0, 0) 1).toNatClampNeg) 0) (8, 17, 0) (((k_ui (k_ui (k_ui (k_ui mi (8, 13, 0) ((mi (7, 0, 0) 1).toNatClampNeg) n) (8, 14, 0) (((k_ui mi (8, 13, 0) ((mi (7, 0, 0) 1).toNatClampNeg) n) (7, 0, 0) 1).toNatClampNeg) r) (8, 15, 0) (((k_ui (k_ui mi (8, 13, 0) ((mi (7, 0, 0) 1).toNatClampNeg) n) (8, 14, 0) (((k_ui mi (8, 13, 0) ((mi (7, 0, 0) 1).toNatClampNeg) n) (7, 0, 0) 1).toNatClampNeg) r) (7, 0, 0) 1).toNatClampNeg) (-1)) (8, 16, 0) (((k_ui (k_ui (k_ui mi (8, 13, 0) ((mi (7, 0, 0) 1).toNatClampNeg) n) (8, 14, 0) (((k_ui mi (8, 13, 0) ((mi (7, 0, 0) 1).toNatClampNeg) n) (7, 0, 0) 1).toNatClampNeg) r) (8, 15, 0) (((k_ui (k_ui mi (8, 13, 0) ((mi (7, 0, 0) 1).toNatClampNeg) n) (8, 14, 0) (((k_ui mi (8, 13, 0) ((mi (7, 0, 0) 1).toNatClampNeg) n) (7, 0, 0) 1).toNatClampNeg) r) (7, 0, 0) 1).toNatClampNeg) (-1)) (7, 0, 0) 1).toNatClampNeg) 0) (7, 0, 0) 1).toNatClampNeg) 0) (7, 0, 0) 1) + 1))
set_option maxRecDepth 100000 in
set_option maxHeartbeats 4000000 in
theorem ct_X7_addsBeggar {mi : MemI} {ml : MemL} {n : Int32} {r : Int32} (hc : vp_in (mi (7, 0, 0) 1) 6) : k_Ct k_KS k_R0 Mt_X7_addsBeggar 0 [vR (7, 0, 0), vI n, vI r] mi ml (k_rt (some (vI (f_X7_addsBeggar mi n r).1)) (f_X7_addsBeggar mi n r).2 ml) := by
  refine k_ofV (L0 := [vR (7, 0, 0), vI n, vI r]) (by decide +kernel) (Nat.le_of_ble_eq_true rfl) rfl rfl ?_
  intro p l e s m args below meth c D cy ad bs C
  refine k_aload_n (pc := 0) C dX7_addsBeggar_0 rfl ?_
  refine k_getR (pc := 1) (r := some (8, 13, 0)) C fl_X7_41 k_in7 rfl rfl rfl dX7_addsBeggar_1 ?_
  refine k_aload_n (pc := 4) C dX7_addsBeggar_4 rfl ?_
  refine k_getI (pc := 5) C fl_X7_132 k_in7 rfl rfl dX7_addsBeggar_5 ?_
  refine k_iload_n (pc := 8) C dX7_addsBeggar_8 rfl ?_
  refine k_iastX (pc := 9) (j := (mi (7, 0, 0) 1).toNatClampNeg) C rfl (by decide +kernel) rfl hc dX7_addsBeggar_9 ?_
  refine k_aload_n (pc := 10) C dX7_addsBeggar_10 rfl ?_
  refine k_getR (pc := 11) (r := some (8, 14, 0)) C fl_X7_44 k_in7 rfl rfl rfl dX7_addsBeggar_11 ?_
  refine k_aload_n (pc := 14) C dX7_addsBeggar_14 rfl ?_
  refine k_getI (pc := 15) C fl_X7_132 k_in7 rfl rfl dX7_addsBeggar_15 ?_
  refine k_iload_n (pc := 18) C dX7_addsBeggar_18 rfl ?_
  refine k_iastX (pc := 19) (j := ((k_ui mi (8, 13, 0) ((mi (7, 0, 0) 1).toNatClampNeg) n) (7, 0, 0) 1).toNatClampNeg) C rfl (by decide +kernel) rfl hc dX7_addsBeggar_19 ?_
  refine k_aload_n (pc := 20) C dX7_addsBeggar_20 rfl ?_
  refine k_getR (pc := 21) (r := some (8, 15, 0)) C fl_X7_47 k_in7 rfl rfl rfl dX7_addsBeggar_21 ?_
  refine k_aload_n (pc := 24) C dX7_addsBeggar_24 rfl ?_
  refine k_getI (pc := 25) C fl_X7_132 k_in7 rfl rfl dX7_addsBeggar_25 ?_
  refine k_iconst (pc := 28) (v := (-1)) C dX7_addsBeggar_28 (by decide) ?_
  refine k_iastX (pc := 29) (j := ((k_ui (k_ui mi (8, 13, 0) ((mi (7, 0, 0) 1).toNatClampNeg) n) (8, 14, 0) (((k_ui mi (8, 13, 0) ((mi (7, 0, 0) 1).toNatClampNeg) n) (7, 0, 0) 1).toNatClampNeg) r) (7, 0, 0) 1).toNatClampNeg) C rfl (by decide +kernel) rfl hc dX7_addsBeggar_29 ?_
  refine k_aload_n (pc := 30) C dX7_addsBeggar_30 rfl ?_
  refine k_getR (pc := 31) (r := some (8, 16, 0)) C fl_X7_50 k_in7 rfl rfl rfl dX7_addsBeggar_31 ?_
  refine k_aload_n (pc := 34) C dX7_addsBeggar_34 rfl ?_
  refine k_getI (pc := 35) C fl_X7_132 k_in7 rfl rfl dX7_addsBeggar_35 ?_
  refine k_iconst (pc := 38) (v := 0) C dX7_addsBeggar_38 (by decide) ?_
  refine k_iastX (pc := 39) (j := ((k_ui (k_ui (k_ui mi (8, 13, 0) ((mi (7, 0, 0) 1).toNatClampNeg) n) (8, 14, 0) (((k_ui mi (8, 13, 0) ((mi (7, 0, 0) 1).toNatClampNeg) n) (7, 0, 0) 1).toNatClampNeg) r) (8, 15, 0) (((k_ui (k_ui mi (8, 13, 0) ((mi (7, 0, 0) 1).toNatClampNeg) n) (8, 14, 0) (((k_ui mi (8, 13, 0) ((mi (7, 0, 0) 1).toNatClampNeg) n) (7, 0, 0) 1).toNatClampNeg) r) (7, 0, 0) 1).toNatClampNeg) (-1)) (7, 0, 0) 1).toNatClampNeg) C rfl (by decide +kernel) rfl hc dX7_addsBeggar_39 ?_
  refine k_aload_n (pc := 40) C dX7_addsBeggar_40 rfl ?_
  refine k_getR (pc := 41) (r := some (8, 17, 0)) C fl_X7_53 k_in7 rfl rfl rfl dX7_addsBeggar_41 ?_
  refine k_aload_n (pc := 44) C dX7_addsBeggar_44 rfl ?_
  refine k_getI (pc := 45) C fl_X7_132 k_in7 rfl rfl dX7_addsBeggar_45 ?_
  refine k_iconst (pc := 48) (v := 0) C dX7_addsBeggar_48 (by decide) ?_
  refine k_iastX (pc := 49) (j := ((k_ui (k_ui (k_ui (k_ui mi (8, 13, 0) ((mi (7, 0, 0) 1).toNatClampNeg) n) (8, 14, 0) (((k_ui mi (8, 13, 0) ((mi (7, 0, 0) 1).toNatClampNeg) n) (7, 0, 0) 1).toNatClampNeg) r) (8, 15, 0) (((k_ui (k_ui mi (8, 13, 0) ((mi (7, 0, 0) 1).toNatClampNeg) n) (8, 14, 0) (((k_ui mi (8, 13, 0) ((mi (7, 0, 0) 1).toNatClampNeg) n) (7, 0, 0) 1).toNatClampNeg) r) (7, 0, 0) 1).toNatClampNeg) (-1)) (8, 16, 0) (((k_ui (k_ui (k_ui mi (8, 13, 0) ((mi (7, 0, 0) 1).toNatClampNeg) n) (8, 14, 0) (((k_ui mi (8, 13, 0) ((mi (7, 0, 0) 1).toNatClampNeg) n) (7, 0, 0) 1).toNatClampNeg) r) (8, 15, 0) (((k_ui (k_ui mi (8, 13, 0) ((mi (7, 0, 0) 1).toNatClampNeg) n) (8, 14, 0) (((k_ui mi (8, 13, 0) ((mi (7, 0, 0) 1).toNatClampNeg) n) (7, 0, 0) 1).toNatClampNeg) r) (7, 0, 0) 1).toNatClampNeg) (-1)) (7, 0, 0) 1).toNatClampNeg) 0) (7, 0, 0) 1).toNatClampNeg) C rfl (by decide +kernel) rfl hc dX7_addsBeggar_49 ?_
  refine k_aload_n (pc := 50) C dX7_addsBeggar_50 rfl ?_
  refine k_dup (pc := 51) C dX7_addsBeggar_51 rfl ?_
  refine k_getI (pc := 52) C fl_X7_132 k_in7 rfl rfl dX7_addsBeggar_52 ?_
  refine k_dup_x1 (pc := 55) C dX7_addsBeggar_55 rfl rfl ?_
  refine k_iconst (pc := 56) (v := 1) C dX7_addsBeggar_56 (by decide) ?_
  refine k_iadd (pc := 57) C dX7_addsBeggar_57 ?_
  refine k_putI (pc := 58) C pl_X7_132 k_in7 rfl rfl dX7_addsBeggar_58 ?_
  exact k_iret (pc := 61) C rfl (k_fIm rfl) dX7_addsBeggar_61
def f_X7_face (mi : MemI) (cz : Int32) : Int32 :=
  if (mi (8, 6, 0) cz.toNatClampNeg) = 1 then if 0 ≤ ((mi (8, 9, 0) cz.toNatClampNeg) - ((mi (8, 10, 0) cz.toNatClampNeg) / 5)) then if ((mi (8, 9, 0) cz.toNatClampNeg) - ((mi (8, 10, 0) cz.toNatClampNeg) / 5)) ≤ 30 then ((mi (8, 9, 0) cz.toNatClampNeg) - ((mi (8, 10, 0) cz.toNatClampNeg) / 5))
      else 30
    else 0
  else if (mi (8, 6, 0) cz.toNatClampNeg) = 2 then if 0 ≤ (((mi (8, 9, 0) cz.toNatClampNeg) - ((mi (8, 10, 0) cz.toNatClampNeg) / 10)) / 2) then if (((mi (8, 9, 0) cz.toNatClampNeg) - ((mi (8, 10, 0) cz.toNatClampNeg) / 10)) / 2) ≤ 30 then (((mi (8, 9, 0) cz.toNatClampNeg) - ((mi (8, 10, 0) cz.toNatClampNeg) / 10)) / 2)
        else 30
      else 0
    else if (mi (8, 6, 0) cz.toNatClampNeg) = 3 then if 0 ≤ ((((mi (8, 9, 0) cz.toNatClampNeg) - ((mi (8, 10, 0) cz.toNatClampNeg) / 10)) / 2) + (mi (8, 7, 0) cz.toNatClampNeg)) then if ((((mi (8, 9, 0) cz.toNatClampNeg) - ((mi (8, 10, 0) cz.toNatClampNeg) / 10)) / 2) + (mi (8, 7, 0) cz.toNatClampNeg)) ≤ 30 then ((((mi (8, 9, 0) cz.toNatClampNeg) - ((mi (8, 10, 0) cz.toNatClampNeg) / 10)) / 2) + (mi (8, 7, 0) cz.toNatClampNeg))
          else 30
        else 0
      else if (mi (8, 6, 0) cz.toNatClampNeg) = 4 then if 0 ≤ (((mi (8, 9, 0) cz.toNatClampNeg) - ((mi (8, 10, 0) cz.toNatClampNeg) / 10)) + (mi (8, 11, 0) cz.toNatClampNeg)) then if (((mi (8, 9, 0) cz.toNatClampNeg) - ((mi (8, 10, 0) cz.toNatClampNeg) / 10)) + (mi (8, 11, 0) cz.toNatClampNeg)) ≤ 30 then (((mi (8, 9, 0) cz.toNatClampNeg) - ((mi (8, 10, 0) cz.toNatClampNeg) / 10)) + (mi (8, 11, 0) cz.toNatClampNeg))
            else 30
          else 0
        else if (mi (8, 6, 0) cz.toNatClampNeg) = 5 then if (mi (8, 8, 0) cz.toNatClampNeg) = 0 then if 0 ≤ ((((mi (8, 9, 0) cz.toNatClampNeg) - ((mi (8, 10, 0) cz.toNatClampNeg) / 10)) + (mi (8, 11, 0) cz.toNatClampNeg)) + 1) then if ((((mi (8, 9, 0) cz.toNatClampNeg) - ((mi (8, 10, 0) cz.toNatClampNeg) / 10)) + (mi (8, 11, 0) cz.toNatClampNeg)) + 1) ≤ 30 then ((((mi (8, 9, 0) cz.toNatClampNeg) - ((mi (8, 10, 0) cz.toNatClampNeg) / 10)) + (mi (8, 11, 0) cz.toNatClampNeg)) + 1)
                else 30
              else 0
            else if 0 ≤ ((((mi (8, 9, 0) cz.toNatClampNeg) - ((mi (8, 10, 0) cz.toNatClampNeg) / 10)) + (mi (8, 11, 0) cz.toNatClampNeg)) + 0) then if ((((mi (8, 9, 0) cz.toNatClampNeg) - ((mi (8, 10, 0) cz.toNatClampNeg) / 10)) + (mi (8, 11, 0) cz.toNatClampNeg)) + 0) ≤ 30 then ((((mi (8, 9, 0) cz.toNatClampNeg) - ((mi (8, 10, 0) cz.toNatClampNeg) / 10)) + (mi (8, 11, 0) cz.toNatClampNeg)) + 0)
                else 30
              else 0
          else if (mi (8, 6, 0) cz.toNatClampNeg) = 6 then if 0 ≤ (((((mi (8, 9, 0) cz.toNatClampNeg) - ((mi (8, 10, 0) cz.toNatClampNeg) / 10)) / 2) + (mi (8, 7, 0) cz.toNatClampNeg)) - 3) then if (((((mi (8, 9, 0) cz.toNatClampNeg) - ((mi (8, 10, 0) cz.toNatClampNeg) / 10)) / 2) + (mi (8, 7, 0) cz.toNatClampNeg)) - 3) ≤ 30 then (((((mi (8, 9, 0) cz.toNatClampNeg) - ((mi (8, 10, 0) cz.toNatClampNeg) / 10)) / 2) + (mi (8, 7, 0) cz.toNatClampNeg)) - 3)
                else 30
              else 0
            else if 0 ≤ ((mi (8, 9, 0) cz.toNatClampNeg) - ((mi (8, 10, 0) cz.toNatClampNeg) / 10)) then if ((mi (8, 9, 0) cz.toNatClampNeg) - ((mi (8, 10, 0) cz.toNatClampNeg) / 10)) ≤ 30 then ((mi (8, 9, 0) cz.toNatClampNeg) - ((mi (8, 10, 0) cz.toNatClampNeg) / 10))
                else 30
              else 0
set_option maxRecDepth 100000 in
set_option maxHeartbeats 4000000 in
theorem ct_X7_face {mi : MemI} {ml : MemL} {cz : Int32} (hc : vp_in cz 6) : k_Ct k_KS k_R0 Mt_X7_face 0 [vR (7, 0, 0), vI cz] mi ml (k_rt (some (vI (f_X7_face mi cz))) mi ml) := by
  refine k_ofV (L0 := [vR (7, 0, 0), vI cz, vU, vU]) (by decide +kernel) (Nat.le_of_ble_eq_true rfl) rfl rfl ?_
  intro p l e s m args below meth c D cy ad bs C
  refine k_aload_n (pc := 0) C dX7_face_0 rfl ?_
  refine k_getR (pc := 1) (r := some (8, 9, 0)) C fl_X7_29 k_in7 rfl rfl rfl dX7_face_1 ?_
  refine k_iload_n (pc := 4) C dX7_face_4 rfl ?_
  refine k_ialdX (pc := 5) (j := cz.toNatClampNeg) C rfl (by decide +kernel) rfl hc dX7_face_5 ?_
  refine k_aload_n (pc := 6) C dX7_face_6 rfl ?_
  refine k_getR (pc := 7) (r := some (8, 10, 0)) C fl_X7_32 k_in7 rfl rfl rfl dX7_face_7 ?_
  refine k_iload_n (pc := 10) C dX7_face_10 rfl ?_
  refine k_ialdX (pc := 11) (j := cz.toNatClampNeg) C rfl (by decide +kernel) rfl hc dX7_face_11 ?_
  refine k_bipush (pc := 12) (v := 10) C dX7_face_12 (by decide) ?_
  refine k_idiv (pc := 14) C dX7_face_14 (by decide) ?_
  refine k_isub (pc := 15) C dX7_face_15 ?_
  refine k_istore_2 (pc := 16) C dX7_face_16 rfl ?_
  refine k_aload_n (pc := 17) C dX7_face_17 rfl ?_
  refine k_getR (pc := 18) (r := some (8, 6, 0)) C fl_X7_20 k_in7 rfl rfl rfl dX7_face_18 ?_
  refine k_iload_n (pc := 21) C dX7_face_21 rfl ?_
  refine k_ialdX (pc := 22) (j := cz.toNatClampNeg) C rfl (by decide +kernel) rfl hc dX7_face_22 ?_
  by_cases c23_1 : (mi (8, 6, 0) cz.toNatClampNeg) = 1
  · skip
    refine k_tabIn (pc := 23) (v := 1) C 60 dX7_face_23 c23_1 (by decide) (by decide) rfl (by decide) ?_
    refine k_aload_n (pc := 60) C dX7_face_60 rfl ?_
    refine k_getR (pc := 61) (r := some (8, 9, 0)) C fl_X7_29 k_in7 rfl rfl rfl dX7_face_61 ?_
    refine k_iload_n (pc := 64) C dX7_face_64 rfl ?_
    refine k_ialdX (pc := 65) (j := cz.toNatClampNeg) C rfl (by decide +kernel) rfl hc dX7_face_65 ?_
    refine k_aload_n (pc := 66) C dX7_face_66 rfl ?_
    refine k_getR (pc := 67) (r := some (8, 10, 0)) C fl_X7_32 k_in7 rfl rfl rfl dX7_face_67 ?_
    refine k_iload_n (pc := 70) C dX7_face_70 rfl ?_
    refine k_ialdX (pc := 71) (j := cz.toNatClampNeg) C rfl (by decide +kernel) rfl hc dX7_face_71 ?_
    refine k_iconst (pc := 72) (v := 5) C dX7_face_72 (by decide) ?_
    refine k_idiv (pc := 73) C dX7_face_73 (by decide) ?_
    refine k_isub (pc := 74) C dX7_face_74 ?_
    refine k_istore_3 (pc := 75) C dX7_face_75 rfl ?_
    refine k_goto (pc := 76) C 157 dX7_face_76 (by decide) ?_
    refine k_iload_n (pc := 157) C dX7_face_157 rfl ?_
    refine k_if_ge (pc := 158) C 165 dX7_face_158 (by decide) (fun c158 => ?_) (fun c158 => ?_)
    · skip
      refine k_iload_n (pc := 165) C dX7_face_165 rfl ?_
      refine k_bipush (pc := 166) (v := 30) C dX7_face_166 (by decide) ?_
      refine k_icmp_le (pc := 168) C 176 dX7_face_168 (by decide) (fun c168 => ?_) (fun c168 => ?_)
      · skip
        refine k_iload_n (pc := 176) C dX7_face_176 rfl ?_
        exact k_iret (pc := 177) C rfl (k_fI (by unfold f_X7_face; rw [if_pos c23_1, if_pos c158, if_pos c168]; try rfl)) dX7_face_177
      · skip
        refine k_bipush (pc := 171) (v := 30) C dX7_face_171 (by decide) ?_
        refine k_goto (pc := 173) C 177 dX7_face_173 (by decide) ?_
        exact k_iret (pc := 177) C rfl (k_fI (by unfold f_X7_face; rw [if_pos c23_1, if_pos c158, if_neg c168]; try rfl)) dX7_face_177
    · skip
      refine k_iconst (pc := 161) (v := 0) C dX7_face_161 (by decide) ?_
      refine k_goto (pc := 162) C 177 dX7_face_162 (by decide) ?_
      exact k_iret (pc := 177) C rfl (k_fI (by unfold f_X7_face; rw [if_pos c23_1, if_neg c158]; try rfl)) dX7_face_177
  by_cases c23_2 : (mi (8, 6, 0) cz.toNatClampNeg) = 2
  · skip
    refine k_tabIn (pc := 23) (v := 2) C 79 dX7_face_23 c23_2 (by decide) (by decide) rfl (by decide) ?_
    refine k_iload_n (pc := 79) C dX7_face_79 rfl ?_
    refine k_iconst (pc := 80) (v := 2) C dX7_face_80 (by decide) ?_
    refine k_idiv (pc := 81) C dX7_face_81 (by decide) ?_
    refine k_istore_3 (pc := 82) C dX7_face_82 rfl ?_
    refine k_goto (pc := 83) C 157 dX7_face_83 (by decide) ?_
    refine k_iload_n (pc := 157) C dX7_face_157 rfl ?_
    refine k_if_ge (pc := 158) C 165 dX7_face_158 (by decide) (fun c158 => ?_) (fun c158 => ?_)
    · skip
      refine k_iload_n (pc := 165) C dX7_face_165 rfl ?_
      refine k_bipush (pc := 166) (v := 30) C dX7_face_166 (by decide) ?_
      refine k_icmp_le (pc := 168) C 176 dX7_face_168 (by decide) (fun c168 => ?_) (fun c168 => ?_)
      · skip
        refine k_iload_n (pc := 176) C dX7_face_176 rfl ?_
        exact k_iret (pc := 177) C rfl (k_fI (by unfold f_X7_face; rw [if_neg c23_1, if_pos c23_2, if_pos c158, if_pos c168]; try rfl)) dX7_face_177
      · skip
        refine k_bipush (pc := 171) (v := 30) C dX7_face_171 (by decide) ?_
        refine k_goto (pc := 173) C 177 dX7_face_173 (by decide) ?_
        exact k_iret (pc := 177) C rfl (k_fI (by unfold f_X7_face; rw [if_neg c23_1, if_pos c23_2, if_pos c158, if_neg c168]; try rfl)) dX7_face_177
    · skip
      refine k_iconst (pc := 161) (v := 0) C dX7_face_161 (by decide) ?_
      refine k_goto (pc := 162) C 177 dX7_face_162 (by decide) ?_
      exact k_iret (pc := 177) C rfl (k_fI (by unfold f_X7_face; rw [if_neg c23_1, if_pos c23_2, if_neg c158]; try rfl)) dX7_face_177
  by_cases c23_3 : (mi (8, 6, 0) cz.toNatClampNeg) = 3
  · skip
    refine k_tabIn (pc := 23) (v := 3) C 86 dX7_face_23 c23_3 (by decide) (by decide) rfl (by decide) ?_
    refine k_iload_n (pc := 86) C dX7_face_86 rfl ?_
    refine k_iconst (pc := 87) (v := 2) C dX7_face_87 (by decide) ?_
    refine k_idiv (pc := 88) C dX7_face_88 (by decide) ?_
    refine k_aload_n (pc := 89) C dX7_face_89 rfl ?_
    refine k_getR (pc := 90) (r := some (8, 7, 0)) C fl_X7_23 k_in7 rfl rfl rfl dX7_face_90 ?_
    refine k_iload_n (pc := 93) C dX7_face_93 rfl ?_
    refine k_ialdX (pc := 94) (j := cz.toNatClampNeg) C rfl (by decide +kernel) rfl hc dX7_face_94 ?_
    refine k_iadd (pc := 95) C dX7_face_95 ?_
    refine k_istore_3 (pc := 96) C dX7_face_96 rfl ?_
    refine k_goto (pc := 97) C 157 dX7_face_97 (by decide) ?_
    refine k_iload_n (pc := 157) C dX7_face_157 rfl ?_
    refine k_if_ge (pc := 158) C 165 dX7_face_158 (by decide) (fun c158 => ?_) (fun c158 => ?_)
    · skip
      refine k_iload_n (pc := 165) C dX7_face_165 rfl ?_
      refine k_bipush (pc := 166) (v := 30) C dX7_face_166 (by decide) ?_
      refine k_icmp_le (pc := 168) C 176 dX7_face_168 (by decide) (fun c168 => ?_) (fun c168 => ?_)
      · skip
        refine k_iload_n (pc := 176) C dX7_face_176 rfl ?_
        exact k_iret (pc := 177) C rfl (k_fI (by unfold f_X7_face; rw [if_neg c23_1, if_neg c23_2, if_pos c23_3, if_pos c158, if_pos c168]; try rfl)) dX7_face_177
      · skip
        refine k_bipush (pc := 171) (v := 30) C dX7_face_171 (by decide) ?_
        refine k_goto (pc := 173) C 177 dX7_face_173 (by decide) ?_
        exact k_iret (pc := 177) C rfl (k_fI (by unfold f_X7_face; rw [if_neg c23_1, if_neg c23_2, if_pos c23_3, if_pos c158, if_neg c168]; try rfl)) dX7_face_177
    · skip
      refine k_iconst (pc := 161) (v := 0) C dX7_face_161 (by decide) ?_
      refine k_goto (pc := 162) C 177 dX7_face_162 (by decide) ?_
      exact k_iret (pc := 177) C rfl (k_fI (by unfold f_X7_face; rw [if_neg c23_1, if_neg c23_2, if_pos c23_3, if_neg c158]; try rfl)) dX7_face_177
  by_cases c23_4 : (mi (8, 6, 0) cz.toNatClampNeg) = 4
  · skip
    refine k_tabIn (pc := 23) (v := 4) C 116 dX7_face_23 c23_4 (by decide) (by decide) rfl (by decide) ?_
    refine k_iload_n (pc := 116) C dX7_face_116 rfl ?_
    refine k_aload_n (pc := 117) C dX7_face_117 rfl ?_
    refine k_getR (pc := 118) (r := some (8, 11, 0)) C fl_X7_35 k_in7 rfl rfl rfl dX7_face_118 ?_
    refine k_iload_n (pc := 121) C dX7_face_121 rfl ?_
    refine k_ialdX (pc := 122) (j := cz.toNatClampNeg) C rfl (by decide +kernel) rfl hc dX7_face_122 ?_
    refine k_iadd (pc := 123) C dX7_face_123 ?_
    refine k_istore_3 (pc := 124) C dX7_face_124 rfl ?_
    refine k_goto (pc := 125) C 157 dX7_face_125 (by decide) ?_
    refine k_iload_n (pc := 157) C dX7_face_157 rfl ?_
    refine k_if_ge (pc := 158) C 165 dX7_face_158 (by decide) (fun c158 => ?_) (fun c158 => ?_)
    · skip
      refine k_iload_n (pc := 165) C dX7_face_165 rfl ?_
      refine k_bipush (pc := 166) (v := 30) C dX7_face_166 (by decide) ?_
      refine k_icmp_le (pc := 168) C 176 dX7_face_168 (by decide) (fun c168 => ?_) (fun c168 => ?_)
      · skip
        refine k_iload_n (pc := 176) C dX7_face_176 rfl ?_
        exact k_iret (pc := 177) C rfl (k_fI (by unfold f_X7_face; rw [if_neg c23_1, if_neg c23_2, if_neg c23_3, if_pos c23_4, if_pos c158, if_pos c168]; try rfl)) dX7_face_177
      · skip
        refine k_bipush (pc := 171) (v := 30) C dX7_face_171 (by decide) ?_
        refine k_goto (pc := 173) C 177 dX7_face_173 (by decide) ?_
        exact k_iret (pc := 177) C rfl (k_fI (by unfold f_X7_face; rw [if_neg c23_1, if_neg c23_2, if_neg c23_3, if_pos c23_4, if_pos c158, if_neg c168]; try rfl)) dX7_face_177
    · skip
      refine k_iconst (pc := 161) (v := 0) C dX7_face_161 (by decide) ?_
      refine k_goto (pc := 162) C 177 dX7_face_162 (by decide) ?_
      exact k_iret (pc := 177) C rfl (k_fI (by unfold f_X7_face; rw [if_neg c23_1, if_neg c23_2, if_neg c23_3, if_pos c23_4, if_neg c158]; try rfl)) dX7_face_177
  by_cases c23_5 : (mi (8, 6, 0) cz.toNatClampNeg) = 5
  · skip
    refine k_tabIn (pc := 23) (v := 5) C 128 dX7_face_23 c23_5 (by decide) (by decide) rfl (by decide) ?_
    refine k_iload_n (pc := 128) C dX7_face_128 rfl ?_
    refine k_aload_n (pc := 129) C dX7_face_129 rfl ?_
    refine k_getR (pc := 130) (r := some (8, 11, 0)) C fl_X7_35 k_in7 rfl rfl rfl dX7_face_130 ?_
    refine k_iload_n (pc := 133) C dX7_face_133 rfl ?_
    refine k_ialdX (pc := 134) (j := cz.toNatClampNeg) C rfl (by decide +kernel) rfl hc dX7_face_134 ?_
    refine k_iadd (pc := 135) C dX7_face_135 ?_
    refine k_aload_n (pc := 136) C dX7_face_136 rfl ?_
    refine k_getR (pc := 137) (r := some (8, 8, 0)) C fl_X7_26 k_in7 rfl rfl rfl dX7_face_137 ?_
    refine k_iload_n (pc := 140) C dX7_face_140 rfl ?_
    refine k_ialdX (pc := 141) (j := cz.toNatClampNeg) C rfl (by decide +kernel) rfl hc dX7_face_141 ?_
    refine k_if_ne (pc := 142) C 149 dX7_face_142 (by decide) (fun c142 => ?_) (fun c142 => ?_)
    · skip
      refine k_iconst (pc := 149) (v := 0) C dX7_face_149 (by decide) ?_
      refine k_iadd (pc := 150) C dX7_face_150 ?_
      refine k_istore_3 (pc := 151) C dX7_face_151 rfl ?_
      refine k_goto (pc := 152) C 157 dX7_face_152 (by decide) ?_
      refine k_iload_n (pc := 157) C dX7_face_157 rfl ?_
      refine k_if_ge (pc := 158) C 165 dX7_face_158 (by decide) (fun c158 => ?_) (fun c158 => ?_)
      · skip
        refine k_iload_n (pc := 165) C dX7_face_165 rfl ?_
        refine k_bipush (pc := 166) (v := 30) C dX7_face_166 (by decide) ?_
        refine k_icmp_le (pc := 168) C 176 dX7_face_168 (by decide) (fun c168 => ?_) (fun c168 => ?_)
        · skip
          refine k_iload_n (pc := 176) C dX7_face_176 rfl ?_
          exact k_iret (pc := 177) C rfl (k_fI (by unfold f_X7_face; rw [if_neg c23_1, if_neg c23_2, if_neg c23_3, if_neg c23_4, if_pos c23_5, if_neg c142, if_pos c158, if_pos c168]; try rfl)) dX7_face_177
        · skip
          refine k_bipush (pc := 171) (v := 30) C dX7_face_171 (by decide) ?_
          refine k_goto (pc := 173) C 177 dX7_face_173 (by decide) ?_
          exact k_iret (pc := 177) C rfl (k_fI (by unfold f_X7_face; rw [if_neg c23_1, if_neg c23_2, if_neg c23_3, if_neg c23_4, if_pos c23_5, if_neg c142, if_pos c158, if_neg c168]; try rfl)) dX7_face_177
      · skip
        refine k_iconst (pc := 161) (v := 0) C dX7_face_161 (by decide) ?_
        refine k_goto (pc := 162) C 177 dX7_face_162 (by decide) ?_
        exact k_iret (pc := 177) C rfl (k_fI (by unfold f_X7_face; rw [if_neg c23_1, if_neg c23_2, if_neg c23_3, if_neg c23_4, if_pos c23_5, if_neg c142, if_neg c158]; try rfl)) dX7_face_177
    · skip
      refine k_iconst (pc := 145) (v := 1) C dX7_face_145 (by decide) ?_
      refine k_goto (pc := 146) C 150 dX7_face_146 (by decide) ?_
      refine k_iadd (pc := 150) C dX7_face_150 ?_
      refine k_istore_3 (pc := 151) C dX7_face_151 rfl ?_
      refine k_goto (pc := 152) C 157 dX7_face_152 (by decide) ?_
      refine k_iload_n (pc := 157) C dX7_face_157 rfl ?_
      refine k_if_ge (pc := 158) C 165 dX7_face_158 (by decide) (fun c158 => ?_) (fun c158 => ?_)
      · skip
        refine k_iload_n (pc := 165) C dX7_face_165 rfl ?_
        refine k_bipush (pc := 166) (v := 30) C dX7_face_166 (by decide) ?_
        refine k_icmp_le (pc := 168) C 176 dX7_face_168 (by decide) (fun c168 => ?_) (fun c168 => ?_)
        · skip
          refine k_iload_n (pc := 176) C dX7_face_176 rfl ?_
          exact k_iret (pc := 177) C rfl (k_fI (by unfold f_X7_face; rw [if_neg c23_1, if_neg c23_2, if_neg c23_3, if_neg c23_4, if_pos c23_5, if_pos c142, if_pos c158, if_pos c168]; try rfl)) dX7_face_177
        · skip
          refine k_bipush (pc := 171) (v := 30) C dX7_face_171 (by decide) ?_
          refine k_goto (pc := 173) C 177 dX7_face_173 (by decide) ?_
          exact k_iret (pc := 177) C rfl (k_fI (by unfold f_X7_face; rw [if_neg c23_1, if_neg c23_2, if_neg c23_3, if_neg c23_4, if_pos c23_5, if_pos c142, if_pos c158, if_neg c168]; try rfl)) dX7_face_177
      · skip
        refine k_iconst (pc := 161) (v := 0) C dX7_face_161 (by decide) ?_
        refine k_goto (pc := 162) C 177 dX7_face_162 (by decide) ?_
        exact k_iret (pc := 177) C rfl (k_fI (by unfold f_X7_face; rw [if_neg c23_1, if_neg c23_2, if_neg c23_3, if_neg c23_4, if_pos c23_5, if_pos c142, if_neg c158]; try rfl)) dX7_face_177
  by_cases c23_6 : (mi (8, 6, 0) cz.toNatClampNeg) = 6
  · skip
    refine k_tabIn (pc := 23) (v := 6) C 100 dX7_face_23 c23_6 (by decide) (by decide) rfl (by decide) ?_
    refine k_iload_n (pc := 100) C dX7_face_100 rfl ?_
    refine k_iconst (pc := 101) (v := 2) C dX7_face_101 (by decide) ?_
    refine k_idiv (pc := 102) C dX7_face_102 (by decide) ?_
    refine k_aload_n (pc := 103) C dX7_face_103 rfl ?_
    refine k_getR (pc := 104) (r := some (8, 7, 0)) C fl_X7_23 k_in7 rfl rfl rfl dX7_face_104 ?_
    refine k_iload_n (pc := 107) C dX7_face_107 rfl ?_
    refine k_ialdX (pc := 108) (j := cz.toNatClampNeg) C rfl (by decide +kernel) rfl hc dX7_face_108 ?_
    refine k_iadd (pc := 109) C dX7_face_109 ?_
    refine k_iconst (pc := 110) (v := 3) C dX7_face_110 (by decide) ?_
    refine k_isub (pc := 111) C dX7_face_111 ?_
    refine k_istore_3 (pc := 112) C dX7_face_112 rfl ?_
    refine k_goto (pc := 113) C 157 dX7_face_113 (by decide) ?_
    refine k_iload_n (pc := 157) C dX7_face_157 rfl ?_
    refine k_if_ge (pc := 158) C 165 dX7_face_158 (by decide) (fun c158 => ?_) (fun c158 => ?_)
    · skip
      refine k_iload_n (pc := 165) C dX7_face_165 rfl ?_
      refine k_bipush (pc := 166) (v := 30) C dX7_face_166 (by decide) ?_
      refine k_icmp_le (pc := 168) C 176 dX7_face_168 (by decide) (fun c168 => ?_) (fun c168 => ?_)
      · skip
        refine k_iload_n (pc := 176) C dX7_face_176 rfl ?_
        exact k_iret (pc := 177) C rfl (k_fI (by unfold f_X7_face; rw [if_neg c23_1, if_neg c23_2, if_neg c23_3, if_neg c23_4, if_neg c23_5, if_pos c23_6, if_pos c158, if_pos c168]; try rfl)) dX7_face_177
      · skip
        refine k_bipush (pc := 171) (v := 30) C dX7_face_171 (by decide) ?_
        refine k_goto (pc := 173) C 177 dX7_face_173 (by decide) ?_
        exact k_iret (pc := 177) C rfl (k_fI (by unfold f_X7_face; rw [if_neg c23_1, if_neg c23_2, if_neg c23_3, if_neg c23_4, if_neg c23_5, if_pos c23_6, if_pos c158, if_neg c168]; try rfl)) dX7_face_177
    · skip
      refine k_iconst (pc := 161) (v := 0) C dX7_face_161 (by decide) ?_
      refine k_goto (pc := 162) C 177 dX7_face_162 (by decide) ?_
      exact k_iret (pc := 177) C rfl (k_fI (by unfold f_X7_face; rw [if_neg c23_1, if_neg c23_2, if_neg c23_3, if_neg c23_4, if_neg c23_5, if_pos c23_6, if_neg c158]; try rfl)) dX7_face_177
  refine k_tabOut (pc := 23) C 155 dX7_face_23 (k_out 1 6 (fun v h1 h2 => by rcases (show v = 1 ∨ v = 2 ∨ v = 3 ∨ v = 4 ∨ v = 5 ∨ v = 6 by omega) with rfl | rfl | rfl | rfl | rfl | rfl <;> first | exact c23_1 | exact c23_2 | exact c23_3 | exact c23_4 | exact c23_5 | exact c23_6)) (by decide) ?_
  refine k_iload_n (pc := 155) C dX7_face_155 rfl ?_
  refine k_istore_3 (pc := 156) C dX7_face_156 rfl ?_
  refine k_iload_n (pc := 157) C dX7_face_157 rfl ?_
  refine k_if_ge (pc := 158) C 165 dX7_face_158 (by decide) (fun c158 => ?_) (fun c158 => ?_)
  · skip
    refine k_iload_n (pc := 165) C dX7_face_165 rfl ?_
    refine k_bipush (pc := 166) (v := 30) C dX7_face_166 (by decide) ?_
    refine k_icmp_le (pc := 168) C 176 dX7_face_168 (by decide) (fun c168 => ?_) (fun c168 => ?_)
    · skip
      refine k_iload_n (pc := 176) C dX7_face_176 rfl ?_
      exact k_iret (pc := 177) C rfl (k_fI (by unfold f_X7_face; rw [if_neg c23_1, if_neg c23_2, if_neg c23_3, if_neg c23_4, if_neg c23_5, if_neg c23_6, if_pos c158, if_pos c168]; try rfl)) dX7_face_177
    · skip
      refine k_bipush (pc := 171) (v := 30) C dX7_face_171 (by decide) ?_
      refine k_goto (pc := 173) C 177 dX7_face_173 (by decide) ?_
      exact k_iret (pc := 177) C rfl (k_fI (by unfold f_X7_face; rw [if_neg c23_1, if_neg c23_2, if_neg c23_3, if_neg c23_4, if_neg c23_5, if_neg c23_6, if_pos c158, if_neg c168]; try rfl)) dX7_face_177
  · skip
    refine k_iconst (pc := 161) (v := 0) C dX7_face_161 (by decide) ?_
    refine k_goto (pc := 162) C 177 dX7_face_162 (by decide) ?_
    exact k_iret (pc := 177) C rfl (k_fI (by unfold f_X7_face; rw [if_neg c23_1, if_neg c23_2, if_neg c23_3, if_neg c23_4, if_neg c23_5, if_neg c23_6, if_neg c158]; try rfl)) dX7_face_177
