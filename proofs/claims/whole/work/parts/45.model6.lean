/-! Model: what is asked of a morning; cities carried -/
theorem k_frt {x y : Int32} {m m' : MemI} {ml : MemL} (h : y = x) (hm : m = m') : k_rt (some (vI x)) m ml (some (vI y)) m' ml := by subst h; subst hm; exact k_rt_rf
theorem isFrom_nn {v lo hi : Int32} (h : ¬ f_X7_isFrom v lo hi = 0) (hlo : ¬ lo < 0) : ¬ v < 0 := by
  unfold f_X7_isFrom at h
  split at h
  · exact absurd rfl h
  · rename_i h1
    intro q
    have a := Int32.lt_iff_toInt_lt.mp q
    have b := (not_congr Int32.lt_iff_toInt_lt).mp h1
    have c := (not_congr Int32.lt_iff_toInt_lt).mp hlo
    omega
theorem isFrom_le {v lo hi : Int32} (h : ¬ f_X7_isFrom v lo hi = 0) : ¬ hi < v := by
  unfold f_X7_isFrom at h
  split at h
  · exact absurd rfl h
  · split at h
    · exact absurd rfl h
    · assumption
theorem k_ltN {n : Int32} (h : ¬ n < 0) (h2 : ¬ 60 < n) : n < nI (n.toNatClampNeg + 1) := by
  obtain ⟨q, hq, rfl⟩ := nI_of h
  rw [nI_clamp hq]
  have : ¬ (60 : Int) < (nI q).toInt := fun w => h2 (Int32.lt_iff_toInt_lt.mpr w)
  rw [nI_toInt hq] at this
  exact nI_lt (by omega) (by omega)
theorem k_nltN {n : Int32} {j : Nat} (h : ¬ n < 0) (hj : j < n.toNatClampNeg) : ¬ n < nI (j + 1) := by
  obtain ⟨q, hq, rfl⟩ := nI_of h
  rw [nI_clamp hq] at hj
  exact nI_nlt (by omega) (by omega)
theorem k_le40 {n : Int32} (h : ¬ 40 < n) : ¬ 60 < n := fun q => h (Int32.lt_iff_toInt_lt.mpr (by
  have := Int32.lt_iff_toInt_lt.mp q
  have e1 : (60 : Int32).toInt = 60 := rfl
  have e2 : (40 : Int32).toInt = 40 := rfl
  omega))
def f_X7_picks (mi : MemI) (bg : Int32) (nC : Nat) (nB : Nat) : Int32 × MemI :=
  if (f_X7_isBeggar mi bg) = 0 then ((f_X7_noTen mi (-1)).1, (f_X7_noTen mi (-1)).2)
  else ((f_X7_goes mi nC nB) (8, 37, 0) bg.toNatClampNeg, f_X7_goes mi nC nB)
set_option maxRecDepth 100000 in
set_option maxHeartbeats 4000000 in
theorem ct_X7_picks {mi : MemI} {ml : MemL} {bg : Int32} {nC : Nat} {nB : Nat} (hm : k_mo nC nB mi) : k_Ct k_KS k_R0 Mt_X7_picks 3 [vR (7, 0, 0), vI bg] mi ml (k_rt (some (vI (f_X7_picks mi bg nC nB).1)) (f_X7_picks mi bg nC nB).2 ml) := by
  refine k_ofV (L0 := [vR (7, 0, 0), vI bg]) (by decide +kernel) (Nat.le_of_ble_eq_true rfl) rfl rfl ?_
  intro p l e s m args below meth c D cy ad bs C
  have hC := hm.1
  have h6 := hm.2.1
  have hB := hm.2.2.1
  have h6b := hm.2.2.2.1
  refine k_aload_n (pc := 0) C dX7_picks_0 rfl ?_
  refine k_iload_n (pc := 1) C dX7_picks_1 rfl ?_
  refine k_call1 (pc := 2) C cv_X7_161 ct_X7_isBeggar k_in7 rfl (by decide) rfl (Nat.le_of_ble_eq_true rfl) dX7_picks_2 ?_
  refine k_if_ne (pc := 5) C 14 dX7_picks_5 (by decide) (fun c5 => ?_) (fun c5 => ?_)
  · skip
    have qc5 := vp_mono (isBeggar_in hB h6b c5) h6b
    refine k_aload_n (pc := 14) C dX7_picks_14 rfl ?_
    refine k_callv0 (pc := 15) C cv_X7_236 (ct_X7_goes hm) k_in7 rfl (by decide) rfl (Nat.le_of_ble_eq_true rfl) dX7_picks_15 ?_
    refine k_aload_n (pc := 18) C dX7_picks_18 rfl ?_
    refine k_getR (pc := 19) (r := some (8, 37, 0)) C fl_X7_99 k_in7 rfl rfl rfl dX7_picks_19 ?_
    refine k_iload_n (pc := 22) C dX7_picks_22 rfl ?_
    refine k_ialdX (pc := 23) (j := bg.toNatClampNeg) C rfl (by decide +kernel) rfl (by first | assumption | exact k_vin (N := 6) (n := 6) (by assumption) (by assumption) (by decide)) dX7_picks_23 ?_
    exact k_iret (pc := 24) C rfl  (k_fIm (by unfold f_X7_picks; rw [if_neg c5]; try rfl)) dX7_picks_24
  · skip
    refine k_aload_n (pc := 8) C dX7_picks_8 rfl ?_
    refine k_iconst (pc := 9) (v := (-1)) C dX7_picks_9 (by decide) ?_
    refine k_call1 (pc := 10) C cv_X7_164 (ct_X7_noTen (k_vd (by decide))) k_in7 rfl (by decide) rfl (Nat.le_of_ble_eq_true rfl) dX7_picks_10 ?_
    exact k_iret (pc := 13) C rfl  (k_fIm (by unfold f_X7_picks; rw [if_pos c5]; try rfl)) dX7_picks_13
def f_X7_kept (mi : MemI) (nC : Nat) (nB : Nat) : Int32 × MemI :=
  ((f_X7_goes mi nC nB) (7, 0, 0) 43, f_X7_goes mi nC nB)
set_option maxRecDepth 100000 in
set_option maxHeartbeats 4000000 in
theorem ct_X7_kept {mi : MemI} {ml : MemL} {nC : Nat} {nB : Nat} (hm : k_mo nC nB mi) : k_Ct k_KS k_R0 Mt_X7_kept 3 [vR (7, 0, 0)] mi ml (k_rt (some (vI (f_X7_kept mi nC nB).1)) (f_X7_kept mi nC nB).2 ml) := by
  refine k_ofV (L0 := [vR (7, 0, 0)]) (by decide +kernel) (Nat.le_of_ble_eq_true rfl) rfl rfl ?_
  intro p l e s m args below meth c D cy ad bs C
  have hC := hm.1
  have h6 := hm.2.1
  have hB := hm.2.2.1
  have h6b := hm.2.2.2.1
  refine k_aload_n (pc := 0) C dX7_kept_0 rfl ?_
  refine k_callv0 (pc := 1) C cv_X7_236 (ct_X7_goes hm) k_in7 rfl (by decide) rfl (Nat.le_of_ble_eq_true rfl) dX7_kept_1 ?_
  refine k_aload_n (pc := 4) C dX7_kept_4 rfl ?_
  refine k_getI (pc := 5) C fl_X7_230 k_in7 rfl rfl dX7_kept_5 ?_
  exact k_iret (pc := 8) C rfl  (k_fIm (by unfold f_X7_kept; try rfl)) dX7_kept_8
def f_X7_pbL (mi : MemI) (cz : Int32) : Nat → Int32
  | 0 => 0
  | j + 1 =>
    if (mi (8, 37, 0) j) = cz then ((f_X7_pbL mi cz j) + (1 <<< ((nI j) &&& 31)))
    else (f_X7_pbL mi cz j)
theorem f_X7_pbL_s (mi : MemI) (cz : Int32) (j : Nat) : f_X7_pbL mi cz (j + 1) =
    if (mi (8, 37, 0) j) = cz then ((f_X7_pbL mi cz j) + (1 <<< ((nI j) &&& 31)))
    else (f_X7_pbL mi cz j) := rfl
def f_X7_pickedBy (mi : MemI) (cz : Int32) (nB : Nat) : Int32 :=
  (f_X7_pbL mi cz nB)
set_option maxRecDepth 100000 in
set_option maxHeartbeats 4000000 in
theorem ct_X7_pickedBy {nC : Nat} {mi : MemI} {ml : MemL} {cz : Int32} {nB : Nat} (hm : k_mo nC nB mi) : k_Ct k_KS k_R0 Mt_X7_pickedBy 0 [vR (7, 0, 0), vI cz] mi ml (k_rt (some (vI (f_X7_pickedBy mi cz nB))) mi ml) := by
  refine k_ofV (L0 := [vR (7, 0, 0), vI cz, vU, vU]) (by decide +kernel) (Nat.le_of_ble_eq_true rfl) rfl rfl ?_
  intro p l e s m args below meth c D cy ad bs C
  have hC := hm.1
  have h6 := hm.2.1
  have hB := hm.2.2.1
  have h6b := hm.2.2.2.1
  refine k_iconst (pc := 0) (v := 0) C dX7_pickedBy_0 (by decide) ?_
  refine k_istore_2 (pc := 1) C dX7_pickedBy_1 rfl ?_
  refine k_iconst (pc := 2) (v := 0) C dX7_pickedBy_2 (by decide) ?_
  refine k_istore_3 (pc := 3) C dX7_pickedBy_3 rfl ?_
  refine k_cast (L' := [vR (7, 0, 0), vI cz, vI (f_X7_pbL mi cz 0), vI (nI 0)]) (mi' := mi) (ml' := ml) rfl rfl rfl ?_
  refine k_down (P := fun j => k_V p l e (k_rm 0) s m args below meth c D cy ad bs k_KS k_R0 0 0 (k_End below D cy ad bs k_KS k_R0 (k_rt (some (vI (f_X7_pickedBy mi cz nB))) mi ml) args s) mi ml 4 [vR (7, 0, 0), vI cz, vI (f_X7_pbL mi cz j), vI (nI j)] []) nB ?_ (fun j hj hk => ?_)
  · skip
    refine k_iload_n (pc := 4) C dX7_pickedBy_4 rfl ?_
    refine k_aload_n (pc := 5) C dX7_pickedBy_5 rfl ?_
    refine k_getI (pc := 6) C fl_X7_132 k_in7 rfl rfl dX7_pickedBy_6 ?_
    refine k_icmp_geT (pc := 9) C 34 dX7_pickedBy_9 (by decide) (k_leC hB) ?_
    refine k_iload_n (pc := 34) C dX7_pickedBy_34 rfl ?_
    exact k_iret (pc := 35) C rfl  (k_fI (by unfold f_X7_pickedBy; try rfl)) dX7_pickedBy_35
  · skip
    try dsimp only at hk
    refine k_iload_n (pc := 4) C dX7_pickedBy_4 rfl ?_
    refine k_aload_n (pc := 5) C dX7_pickedBy_5 rfl ?_
    refine k_getI (pc := 6) C fl_X7_132 k_in7 rfl rfl dX7_pickedBy_6 ?_
    refine k_icmp_geF (pc := 9) C 34 dX7_pickedBy_9 (by decide) (k_ngeC hB h6b hj) ?_
    refine k_aload_n (pc := 12) C dX7_pickedBy_12 rfl ?_
    refine k_getR (pc := 13) (r := some (8, 37, 0)) C fl_X7_99 k_in7 rfl rfl rfl dX7_pickedBy_13 ?_
    refine k_iload_n (pc := 16) C dX7_pickedBy_16 rfl ?_
    refine k_ialdX (pc := 17) (j := j) C (nI_clamp (by omega)) (by decide +kernel) rfl (vp_in_nI (show _ < (6 : Nat) by omega) (show (6 : Nat) < 2 ^ 31 by decide)) dX7_pickedBy_17 ?_
    refine k_iload_n (pc := 18) C dX7_pickedBy_18 rfl ?_
    refine k_icmp_ne (pc := 19) C 28 dX7_pickedBy_19 (by decide) (fun c19 => ?_) (fun c19 => ?_)
    · skip
      refine k_iinc_3 (pc := 28) (v := nI (j + 1)) C dX7_pickedBy_28 (k_inc j) rfl ?_
      refine k_goto (pc := 31) C 4 dX7_pickedBy_31 (by decide) ?_
      exact k_cast (by rw [f_X7_pbL_s, if_neg c19]) rfl rfl hk
    · skip
      refine k_iload_n (pc := 22) C dX7_pickedBy_22 rfl ?_
      refine k_iconst (pc := 23) (v := 1) C dX7_pickedBy_23 (by decide) ?_
      refine k_iload_n (pc := 24) C dX7_pickedBy_24 rfl ?_
      refine k_ishl (pc := 25) C dX7_pickedBy_25 ?_
      refine k_iadd (pc := 26) C dX7_pickedBy_26 ?_
      refine k_istore_2 (pc := 27) C dX7_pickedBy_27 rfl ?_
      refine k_iinc_3 (pc := 28) (v := nI (j + 1)) C dX7_pickedBy_28 (k_inc j) rfl ?_
      refine k_goto (pc := 31) C 4 dX7_pickedBy_31 (by decide) ?_
      exact k_cast (by rw [f_X7_pbL_s, if_pos c19]) rfl rfl hk
def f_X7_picked (mi : MemI) (cz : Int32) (w : Int32) (nC : Nat) (nB : Nat) : Int32 × MemI :=
  if (f_X7_isCitizen mi cz) = 0 then ((f_X7_no mi (-1)).1, (f_X7_no mi (-1)).2)
  else if w < 0 then ((f_X7_no mi (-5)).1, (f_X7_no mi (-5)).2)
    else if w ≤ 1 then if w = 0 then (f_X7_pickedBy (f_X7_goes mi nC nB) cz nB, f_X7_goes mi nC nB)
        else ((f_X7_goes mi nC nB) (8, 40, 0) cz.toNatClampNeg, f_X7_goes mi nC nB)
      else ((f_X7_no mi (-5)).1, (f_X7_no mi (-5)).2)
set_option maxRecDepth 100000 in
set_option maxHeartbeats 4000000 in
theorem ct_X7_picked {mi : MemI} {ml : MemL} {cz : Int32} {w : Int32} {nC : Nat} {nB : Nat} (hm : k_mo nC nB mi) : k_Ct k_KS k_R0 Mt_X7_picked 3 [vR (7, 0, 0), vI cz, vI w] mi ml (k_rt (some (vI (f_X7_picked mi cz w nC nB).1)) (f_X7_picked mi cz w nC nB).2 ml) := by
  refine k_ofV (L0 := [vR (7, 0, 0), vI cz, vI w]) (by decide +kernel) (Nat.le_of_ble_eq_true rfl) rfl rfl ?_
  intro p l e s m args below meth c D cy ad bs C
  have hC := hm.1
  have h6 := hm.2.1
  have hB := hm.2.2.1
  have h6b := hm.2.2.2.1
  refine k_aload_n (pc := 0) C dX7_picked_0 rfl ?_
  refine k_iload_n (pc := 1) C dX7_picked_1 rfl ?_
  refine k_call1 (pc := 2) C cv_X7_143 ct_X7_isCitizen k_in7 rfl (by decide) rfl (Nat.le_of_ble_eq_true rfl) dX7_picked_2 ?_
  refine k_if_ne (pc := 5) C 14 dX7_picked_5 (by decide) (fun c5 => ?_) (fun c5 => ?_)
  · skip
    have qc5 := vp_mono (isCitizen_in hC h6 c5) h6
    refine k_iload_n (pc := 14) C dX7_picked_14 rfl ?_
    refine k_if_lt (pc := 15) C 23 dX7_picked_15 (by decide) (fun c15 => ?_) (fun c15 => ?_)
    · skip
      refine k_aload_n (pc := 23) C dX7_picked_23 rfl ?_
      refine k_bipush (pc := 24) (v := (-5)) C dX7_picked_24 (by decide) ?_
      refine k_call1 (pc := 26) C cv_X7_139 (ct_X7_no (k_vd (by decide))) k_in7 rfl (by decide) rfl (Nat.le_of_ble_eq_true rfl) dX7_picked_26 ?_
      exact k_iret (pc := 29) C rfl  (k_fIm (by unfold f_X7_picked; rw [if_neg c5, if_pos c15]; try rfl)) dX7_picked_29
    · skip
      refine k_iload_n (pc := 18) C dX7_picked_18 rfl ?_
      refine k_iconst (pc := 19) (v := 1) C dX7_picked_19 (by decide) ?_
      refine k_icmp_le (pc := 20) C 30 dX7_picked_20 (by decide) (fun c20 => ?_) (fun c20 => ?_)
      · skip
        refine k_aload_n (pc := 30) C dX7_picked_30 rfl ?_
        refine k_callv0 (pc := 31) C cv_X7_236 (ct_X7_goes hm) k_in7 rfl (by decide) rfl (Nat.le_of_ble_eq_true rfl) dX7_picked_31 ?_
        refine k_iload_n (pc := 34) C dX7_picked_34 rfl ?_
        refine k_if_ne (pc := 35) C 46 dX7_picked_35 (by decide) (fun c35 => ?_) (fun c35 => ?_)
        · skip
          refine k_aload_n (pc := 46) C dX7_picked_46 rfl ?_
          refine k_getR (pc := 47) (r := some (8, 40, 0)) C fl_X7_108 k_in7 rfl rfl rfl dX7_picked_47 ?_
          refine k_iload_n (pc := 50) C dX7_picked_50 rfl ?_
          refine k_ialdX (pc := 51) (j := cz.toNatClampNeg) C rfl (by decide +kernel) rfl (by first | assumption | exact k_vin (N := 6) (n := 6) (by assumption) (by assumption) (by decide)) dX7_picked_51 ?_
          exact k_iret (pc := 52) C rfl  (k_fIm (by unfold f_X7_picked; rw [if_neg c5, if_neg c15, if_pos c20, if_neg c35]; try rfl)) dX7_picked_52
        · skip
          refine k_aload_n (pc := 38) C dX7_picked_38 rfl ?_
          refine k_iload_n (pc := 39) C dX7_picked_39 rfl ?_
          refine k_call1 (pc := 40) C cv_X7_239 (ct_X7_pickedBy (mo_goes hm)) k_in7 rfl (by decide) rfl (Nat.le_of_ble_eq_true rfl) dX7_picked_40 ?_
          refine k_goto (pc := 43) C 52 dX7_picked_43 (by decide) ?_
          exact k_iret (pc := 52) C rfl  (k_fIm (by unfold f_X7_picked; rw [if_neg c5, if_neg c15, if_pos c20, if_pos c35]; try rfl)) dX7_picked_52
      · skip
        refine k_aload_n (pc := 23) C dX7_picked_23 rfl ?_
        refine k_bipush (pc := 24) (v := (-5)) C dX7_picked_24 (by decide) ?_
        refine k_call1 (pc := 26) C cv_X7_139 (ct_X7_no (k_vd (by decide))) k_in7 rfl (by decide) rfl (Nat.le_of_ble_eq_true rfl) dX7_picked_26 ?_
        exact k_iret (pc := 29) C rfl  (k_fIm (by unfold f_X7_picked; rw [if_neg c5, if_neg c15, if_neg c20]; try rfl)) dX7_picked_29
  · skip
    refine k_aload_n (pc := 8) C dX7_picked_8 rfl ?_
    refine k_iconst (pc := 9) (v := (-1)) C dX7_picked_9 (by decide) ?_
    refine k_call1 (pc := 10) C cv_X7_139 (ct_X7_no (k_vd (by decide))) k_in7 rfl (by decide) rfl (Nat.le_of_ble_eq_true rfl) dX7_picked_10 ?_
    exact k_iret (pc := 13) C rfl  (k_fIm (by unfold f_X7_picked; rw [if_pos c5]; try rfl)) dX7_picked_13
def f_X7_crO (mi : MemI) (fo : Nat) (t : Nat) (f : Nat) : Nat → MemI
  | 0 => mi
  | j + 1 =>
    k_ui (f_X7_crO mi fo t f j) (8, t, 0) (((nI f) + (nI j)).toNatClampNeg) ((f_X7_crO mi fo t f j) (8, fo, 0) j)
theorem f_X7_crO_s (mi : MemI) (fo : Nat) (t : Nat) (f : Nat) (j : Nat) : f_X7_crO mi fo t f (j + 1) =
    k_ui (f_X7_crO mi fo t f j) (8, t, 0) (((nI f) + (nI j)).toNatClampNeg) ((f_X7_crO mi fo t f j) (8, fo, 0) j) := rfl
set_option maxRecDepth 100000 in
set_option maxHeartbeats 4000000 in
theorem ct_X7_carries_O {mi : MemI} {ml : MemL} {fo : Nat} {t : Nat} {f : Nat} (hof : (8, fo, 0) ∈ k_KS) (hto : (8, t, 0) ∈ k_KS) (hl1 : k_ln (8, fo, 0) = 6) (hl2 : k_ln (8, t, 0) = 80) (hf : f + 6 ≤ 80) : k_Ct k_KS k_R0 Mt_X7_carries 0 [vR (7, 0, 0), vR (8, fo, 0), vR (8, t, 0), vI (nI f), vI 0] mi ml (k_rt (some (vI (nI (f + 6)))) (f_X7_crO mi fo t f 6) ml) := by
  refine k_ofV (L0 := [vR (7, 0, 0), vR (8, fo, 0), vR (8, t, 0), vI (nI f), vI 0, vU]) (by decide +kernel) (Nat.le_of_ble_eq_true rfl) rfl rfl ?_
  intro p l e s m args below meth c D cy ad bs C
  refine k_iconst (pc := 0) (v := 0) C dX7_carries_0 (by decide) ?_
  refine k_istore_5 (pc := 1) C dX7_carries_1 rfl ?_
  refine k_cast (L' := [vR (7, 0, 0), vR (8, fo, 0), vR (8, t, 0), vI (nI f), vI 0, vI (nI 0)]) (mi' := f_X7_crO mi fo t f 0) (ml' := ml) rfl rfl rfl ?_
  refine k_down (P := fun j => k_V p l e (k_rm 0) s m args below meth c D cy ad bs k_KS k_R0 0 0 (k_End below D cy ad bs k_KS k_R0 (k_rt (some (vI (nI (f + 6)))) (f_X7_crO mi fo t f 6) ml) args s) (f_X7_crO mi fo t f j) ml 3 [vR (7, 0, 0), vR (8, fo, 0), vR (8, t, 0), vI (nI f), vI 0, vI (nI j)] []) 6 ?_ (fun j hj hk => ?_)
  · skip
    refine k_iload (pc := 3) C dX7_carries_3 rfl ?_
    refine k_bipush (pc := 5) (v := 6) C dX7_carries_5 (by decide) ?_
    refine k_icmp_geT (pc := 7) C 44 dX7_carries_7 (by decide) (by decide) ?_
    refine k_iload_n (pc := 44) C dX7_carries_44 rfl ?_
    refine k_bipush (pc := 45) (v := 6) C dX7_carries_45 (by decide) ?_
    refine k_iadd (pc := 47) C dX7_carries_47 ?_
    exact k_iret (pc := 48) C rfl (k_frt (nI_add f 6) rfl) dX7_carries_48
  · skip
    try dsimp only at hk
    refine k_iload (pc := 3) C dX7_carries_3 rfl ?_
    refine k_bipush (pc := 5) (v := 6) C dX7_carries_5 (by decide) ?_
    refine k_icmp_geF (pc := 7) C 44 dX7_carries_7 (by decide) (k_nge (n := 6) rfl (by decide) hj) ?_
    refine k_iload (pc := 10) C dX7_carries_10 rfl ?_
    refine k_if_eqT (pc := 12) C 28 dX7_carries_12 (by decide) (by decide) ?_
    refine k_aload_n (pc := 28) C dX7_carries_28 rfl ?_
    refine k_iload_n (pc := 29) C dX7_carries_29 rfl ?_
    refine k_iload (pc := 30) C dX7_carries_30 rfl ?_
    refine k_iadd (pc := 32) C dX7_carries_32 ?_
    refine k_aload_n (pc := 33) C dX7_carries_33 rfl ?_
    refine k_iload (pc := 34) C dX7_carries_34 rfl ?_
    refine k_ialdX (pc := 36) (j := j) C (nI_clamp (by omega)) (by assumption) rfl (by rw [hl1]; exact vp_in_nI (by omega) (by decide)) dX7_carries_36 ?_
    refine k_iastX (pc := 37) (j := ((nI f) + (nI j)).toNatClampNeg) C rfl (by assumption) rfl (by rw [hl2, nI_add]; exact vp_in_nI (by omega) (by decide)) dX7_carries_37 ?_
    refine k_iinc_5 (pc := 38) (v := nI (j + 1)) C dX7_carries_38 (k_inc j) rfl ?_
    refine k_goto (pc := 41) C 3 dX7_carries_41 (by decide) ?_
    exact k_cast rfl (by rw [f_X7_crO_s]) rfl hk
def f_X7_crI (mi : MemI) (fo : Nat) (t : Nat) (f : Nat) : Nat → MemI
  | 0 => mi
  | j + 1 =>
    k_ui (f_X7_crI mi fo t f j) (8, fo, 0) j ((f_X7_crI mi fo t f j) (8, t, 0) (((nI f) + (nI j)).toNatClampNeg))
theorem f_X7_crI_s (mi : MemI) (fo : Nat) (t : Nat) (f : Nat) (j : Nat) : f_X7_crI mi fo t f (j + 1) =
    k_ui (f_X7_crI mi fo t f j) (8, fo, 0) j ((f_X7_crI mi fo t f j) (8, t, 0) (((nI f) + (nI j)).toNatClampNeg)) := rfl
set_option maxRecDepth 100000 in
set_option maxHeartbeats 4000000 in
theorem ct_X7_carries_I {mi : MemI} {ml : MemL} {fo : Nat} {t : Nat} {f : Nat} (hof : (8, fo, 0) ∈ k_KS) (hto : (8, t, 0) ∈ k_KS) (hl1 : k_ln (8, fo, 0) = 6) (hl2 : k_ln (8, t, 0) = 80) (hf : f + 6 ≤ 80) : k_Ct k_KS k_R0 Mt_X7_carries 0 [vR (7, 0, 0), vR (8, fo, 0), vR (8, t, 0), vI (nI f), vI 1] mi ml (k_rt (some (vI (nI (f + 6)))) (f_X7_crI mi fo t f 6) ml) := by
  refine k_ofV (L0 := [vR (7, 0, 0), vR (8, fo, 0), vR (8, t, 0), vI (nI f), vI 1, vU]) (by decide +kernel) (Nat.le_of_ble_eq_true rfl) rfl rfl ?_
  intro p l e s m args below meth c D cy ad bs C
  refine k_iconst (pc := 0) (v := 0) C dX7_carries_0 (by decide) ?_
  refine k_istore_5 (pc := 1) C dX7_carries_1 rfl ?_
  refine k_cast (L' := [vR (7, 0, 0), vR (8, fo, 0), vR (8, t, 0), vI (nI f), vI 1, vI (nI 0)]) (mi' := f_X7_crI mi fo t f 0) (ml' := ml) rfl rfl rfl ?_
  refine k_down (P := fun j => k_V p l e (k_rm 0) s m args below meth c D cy ad bs k_KS k_R0 0 0 (k_End below D cy ad bs k_KS k_R0 (k_rt (some (vI (nI (f + 6)))) (f_X7_crI mi fo t f 6) ml) args s) (f_X7_crI mi fo t f j) ml 3 [vR (7, 0, 0), vR (8, fo, 0), vR (8, t, 0), vI (nI f), vI 1, vI (nI j)] []) 6 ?_ (fun j hj hk => ?_)
  · skip
    refine k_iload (pc := 3) C dX7_carries_3 rfl ?_
    refine k_bipush (pc := 5) (v := 6) C dX7_carries_5 (by decide) ?_
    refine k_icmp_geT (pc := 7) C 44 dX7_carries_7 (by decide) (by decide) ?_
    refine k_iload_n (pc := 44) C dX7_carries_44 rfl ?_
    refine k_bipush (pc := 45) (v := 6) C dX7_carries_45 (by decide) ?_
    refine k_iadd (pc := 47) C dX7_carries_47 ?_
    exact k_iret (pc := 48) C rfl (k_frt (nI_add f 6) rfl) dX7_carries_48
  · skip
    try dsimp only at hk
    refine k_iload (pc := 3) C dX7_carries_3 rfl ?_
    refine k_bipush (pc := 5) (v := 6) C dX7_carries_5 (by decide) ?_
    refine k_icmp_geF (pc := 7) C 44 dX7_carries_7 (by decide) (k_nge (n := 6) rfl (by decide) hj) ?_
    refine k_iload (pc := 10) C dX7_carries_10 rfl ?_
    refine k_if_eqF (pc := 12) C 28 dX7_carries_12 (by decide) (by decide) ?_
    refine k_aload_n (pc := 15) C dX7_carries_15 rfl ?_
    refine k_iload (pc := 16) C dX7_carries_16 rfl ?_
    refine k_aload_n (pc := 18) C dX7_carries_18 rfl ?_
    refine k_iload_n (pc := 19) C dX7_carries_19 rfl ?_
    refine k_iload (pc := 20) C dX7_carries_20 rfl ?_
    refine k_iadd (pc := 22) C dX7_carries_22 ?_
    refine k_ialdX (pc := 23) (j := ((nI f) + (nI j)).toNatClampNeg) C rfl (by assumption) rfl (by rw [hl2, nI_add]; exact vp_in_nI (by omega) (by decide)) dX7_carries_23 ?_
    refine k_iastX (pc := 24) (j := j) C (nI_clamp (by omega)) (by assumption) rfl (by rw [hl1]; exact vp_in_nI (by omega) (by decide)) dX7_carries_24 ?_
    refine k_goto (pc := 25) C 38 dX7_carries_25 (by decide) ?_
    refine k_iinc_5 (pc := 38) (v := nI (j + 1)) C dX7_carries_38 (k_inc j) rfl ?_
    refine k_goto (pc := 41) C 3 dX7_carries_41 (by decide) ?_
    exact k_cast rfl (by rw [f_X7_crI_s]) rfl hk
def f_X7_allO (mi : MemI) (t : Nat) : MemI :=
  (k_ui (k_ui (k_ui (k_ui (f_X7_crO (f_X7_crO (f_X7_crO (f_X7_crO (f_X7_crO (f_X7_crO (f_X7_crO (f_X7_crO (f_X7_crO (f_X7_crO (f_X7_crO (f_X7_crO mi 6 t 0 6) 7 t 6 6) 8 t 12 6) 9 t 18 6) 10 t 24 6) 11 t 30 6) 12 t 36 6) 13 t 42 6) 14 t 48 6) 15 t 54 6) 16 t 60 6) 17 t 66 6) (8, t, 0) 72 ((f_X7_crO (f_X7_crO (f_X7_crO (f_X7_crO (f_X7_crO (f_X7_crO (f_X7_crO (f_X7_crO (f_X7_crO (f_X7_crO (f_X7_crO (f_X7_crO mi 6 t 0 6) 7 t 6 6) 8 t 12 6) 9 t 18 6) 10 t 24 6) 11 t 30 6) 12 t 36 6) 13 t 42 6) 14 t 48 6) 15 t 54 6) 16 t 60 6) 17 t 66 6) (7, 0, 0) 0)) (8, t, 0) 73 ((f_X7_crO (f_X7_crO (f_X7_crO (f_X7_crO (f_X7_crO (f_X7_crO (f_X7_crO (f_X7_crO (f_X7_crO (f_X7_crO (f_X7_crO (f_X7_crO mi 6 t 0 6) 7 t 6 6) 8 t 12 6) 9 t 18 6) 10 t 24 6) 11 t 30 6) 12 t 36 6) 13 t 42 6) 14 t 48 6) 15 t 54 6) 16 t 60 6) 17 t 66 6) (7, 0, 0) 1)) (8, t, 0) 74 ((f_X7_crO (f_X7_crO (f_X7_crO (f_X7_crO (f_X7_crO (f_X7_crO (f_X7_crO (f_X7_crO (f_X7_crO (f_X7_crO (f_X7_crO (f_X7_crO mi 6 t 0 6) 7 t 6 6) 8 t 12 6) 9 t 18 6) 10 t 24 6) 11 t 30 6) 12 t 36 6) 13 t 42 6) 14 t 48 6) 15 t 54 6) 16 t 60 6) 17 t 66 6) (7, 0, 0) 2)) (8, t, 0) 75 ((f_X7_crO (f_X7_crO (f_X7_crO (f_X7_crO (f_X7_crO (f_X7_crO (f_X7_crO (f_X7_crO (f_X7_crO (f_X7_crO (f_X7_crO (f_X7_crO mi 6 t 0 6) 7 t 6 6) 8 t 12 6) 9 t 18 6) 10 t 24 6) 11 t 30 6) 12 t 36 6) 13 t 42 6) 14 t 48 6) 15 t 54 6) 16 t 60 6) 17 t 66 6) (7, 0, 0) 3))
set_option maxRecDepth 100000 in
set_option maxHeartbeats 4000000 in
theorem ct_X7_all_O {mi : MemI} {ml : MemL} {t : Nat} (hto : (8, t, 0) ∈ k_KS) (hl2 : k_ln (8, t, 0) = 80) : k_Ct k_KS k_R0 Mt_X7_all 1 [vR (7, 0, 0), vR (8, t, 0), vI 0] mi ml (k_rt none (f_X7_allO mi t) ml) := by
  refine k_ofV (L0 := [vR (7, 0, 0), vR (8, t, 0), vI 0, vU]) (by decide +kernel) (Nat.le_of_ble_eq_true rfl) rfl rfl ?_
  intro p l e s m args below meth c D cy ad bs C
  refine k_aload_n (pc := 0) C dX7_all_0 rfl ?_
  refine k_aload_n (pc := 1) C dX7_all_1 rfl ?_
  refine k_getR (pc := 2) (r := some (8, 6, 0)) C fl_X7_20 k_in7 rfl rfl rfl dX7_all_2 ?_
  refine k_aload_n (pc := 5) C dX7_all_5 rfl ?_
  refine k_iconst (pc := 6) (v := 0) C dX7_all_6 (by decide) ?_
  refine k_iload_n (pc := 7) C dX7_all_7 rfl ?_
  refine k_call4 (pc := 8) C cv_X7_203 (ct_X7_carries_O (f := 0) (by decide +kernel) hto rfl hl2 (by decide)) k_in7 rfl (by decide) rfl (Nat.le_of_ble_eq_true rfl) dX7_all_8 ?_
  refine k_sx (x := 6) (by decide) ?_
  refine k_istore_3 (pc := 11) C dX7_all_11 rfl ?_
  refine k_aload_n (pc := 12) C dX7_all_12 rfl ?_
  refine k_aload_n (pc := 13) C dX7_all_13 rfl ?_
  refine k_getR (pc := 14) (r := some (8, 7, 0)) C fl_X7_23 k_in7 rfl rfl rfl dX7_all_14 ?_
  refine k_aload_n (pc := 17) C dX7_all_17 rfl ?_
  refine k_iload_n (pc := 18) C dX7_all_18 rfl ?_
  refine k_iload_n (pc := 19) C dX7_all_19 rfl ?_
  refine k_call4 (pc := 20) C cv_X7_203 (ct_X7_carries_O (f := 6) (by decide +kernel) hto rfl hl2 (by decide)) k_in7 rfl (by decide) rfl (Nat.le_of_ble_eq_true rfl) dX7_all_20 ?_
  refine k_sx (x := 12) (by decide) ?_
  refine k_istore_3 (pc := 23) C dX7_all_23 rfl ?_
  refine k_aload_n (pc := 24) C dX7_all_24 rfl ?_
  refine k_aload_n (pc := 25) C dX7_all_25 rfl ?_
  refine k_getR (pc := 26) (r := some (8, 8, 0)) C fl_X7_26 k_in7 rfl rfl rfl dX7_all_26 ?_
  refine k_aload_n (pc := 29) C dX7_all_29 rfl ?_
  refine k_iload_n (pc := 30) C dX7_all_30 rfl ?_
  refine k_iload_n (pc := 31) C dX7_all_31 rfl ?_
  refine k_call4 (pc := 32) C cv_X7_203 (ct_X7_carries_O (f := 12) (by decide +kernel) hto rfl hl2 (by decide)) k_in7 rfl (by decide) rfl (Nat.le_of_ble_eq_true rfl) dX7_all_32 ?_
  refine k_sx (x := 18) (by decide) ?_
  refine k_istore_3 (pc := 35) C dX7_all_35 rfl ?_
  refine k_aload_n (pc := 36) C dX7_all_36 rfl ?_
  refine k_aload_n (pc := 37) C dX7_all_37 rfl ?_
  refine k_getR (pc := 38) (r := some (8, 9, 0)) C fl_X7_29 k_in7 rfl rfl rfl dX7_all_38 ?_
  refine k_aload_n (pc := 41) C dX7_all_41 rfl ?_
  refine k_iload_n (pc := 42) C dX7_all_42 rfl ?_
  refine k_iload_n (pc := 43) C dX7_all_43 rfl ?_
  refine k_call4 (pc := 44) C cv_X7_203 (ct_X7_carries_O (f := 18) (by decide +kernel) hto rfl hl2 (by decide)) k_in7 rfl (by decide) rfl (Nat.le_of_ble_eq_true rfl) dX7_all_44 ?_
  refine k_sx (x := 24) (by decide) ?_
  refine k_istore_3 (pc := 47) C dX7_all_47 rfl ?_
  refine k_aload_n (pc := 48) C dX7_all_48 rfl ?_
  refine k_aload_n (pc := 49) C dX7_all_49 rfl ?_
  refine k_getR (pc := 50) (r := some (8, 10, 0)) C fl_X7_32 k_in7 rfl rfl rfl dX7_all_50 ?_
  refine k_aload_n (pc := 53) C dX7_all_53 rfl ?_
  refine k_iload_n (pc := 54) C dX7_all_54 rfl ?_
  refine k_iload_n (pc := 55) C dX7_all_55 rfl ?_
  refine k_call4 (pc := 56) C cv_X7_203 (ct_X7_carries_O (f := 24) (by decide +kernel) hto rfl hl2 (by decide)) k_in7 rfl (by decide) rfl (Nat.le_of_ble_eq_true rfl) dX7_all_56 ?_
  refine k_sx (x := 30) (by decide) ?_
  refine k_istore_3 (pc := 59) C dX7_all_59 rfl ?_
  refine k_aload_n (pc := 60) C dX7_all_60 rfl ?_
  refine k_aload_n (pc := 61) C dX7_all_61 rfl ?_
  refine k_getR (pc := 62) (r := some (8, 11, 0)) C fl_X7_35 k_in7 rfl rfl rfl dX7_all_62 ?_
  refine k_aload_n (pc := 65) C dX7_all_65 rfl ?_
  refine k_iload_n (pc := 66) C dX7_all_66 rfl ?_
  refine k_iload_n (pc := 67) C dX7_all_67 rfl ?_
  refine k_call4 (pc := 68) C cv_X7_203 (ct_X7_carries_O (f := 30) (by decide +kernel) hto rfl hl2 (by decide)) k_in7 rfl (by decide) rfl (Nat.le_of_ble_eq_true rfl) dX7_all_68 ?_
  refine k_sx (x := 36) (by decide) ?_
  refine k_istore_3 (pc := 71) C dX7_all_71 rfl ?_
  refine k_aload_n (pc := 72) C dX7_all_72 rfl ?_
  refine k_aload_n (pc := 73) C dX7_all_73 rfl ?_
  refine k_getR (pc := 74) (r := some (8, 12, 0)) C fl_X7_38 k_in7 rfl rfl rfl dX7_all_74 ?_
  refine k_aload_n (pc := 77) C dX7_all_77 rfl ?_
  refine k_iload_n (pc := 78) C dX7_all_78 rfl ?_
  refine k_iload_n (pc := 79) C dX7_all_79 rfl ?_
  refine k_call4 (pc := 80) C cv_X7_203 (ct_X7_carries_O (f := 36) (by decide +kernel) hto rfl hl2 (by decide)) k_in7 rfl (by decide) rfl (Nat.le_of_ble_eq_true rfl) dX7_all_80 ?_
  refine k_sx (x := 42) (by decide) ?_
  refine k_istore_3 (pc := 83) C dX7_all_83 rfl ?_
  refine k_aload_n (pc := 84) C dX7_all_84 rfl ?_
  refine k_aload_n (pc := 85) C dX7_all_85 rfl ?_
  refine k_getR (pc := 86) (r := some (8, 13, 0)) C fl_X7_41 k_in7 rfl rfl rfl dX7_all_86 ?_
  refine k_aload_n (pc := 89) C dX7_all_89 rfl ?_
  refine k_iload_n (pc := 90) C dX7_all_90 rfl ?_
  refine k_iload_n (pc := 91) C dX7_all_91 rfl ?_
  refine k_call4 (pc := 92) C cv_X7_203 (ct_X7_carries_O (f := 42) (by decide +kernel) hto rfl hl2 (by decide)) k_in7 rfl (by decide) rfl (Nat.le_of_ble_eq_true rfl) dX7_all_92 ?_
  refine k_sx (x := 48) (by decide) ?_
  refine k_istore_3 (pc := 95) C dX7_all_95 rfl ?_
  refine k_aload_n (pc := 96) C dX7_all_96 rfl ?_
  refine k_aload_n (pc := 97) C dX7_all_97 rfl ?_
  refine k_getR (pc := 98) (r := some (8, 14, 0)) C fl_X7_44 k_in7 rfl rfl rfl dX7_all_98 ?_
  refine k_aload_n (pc := 101) C dX7_all_101 rfl ?_
  refine k_iload_n (pc := 102) C dX7_all_102 rfl ?_
  refine k_iload_n (pc := 103) C dX7_all_103 rfl ?_
  refine k_call4 (pc := 104) C cv_X7_203 (ct_X7_carries_O (f := 48) (by decide +kernel) hto rfl hl2 (by decide)) k_in7 rfl (by decide) rfl (Nat.le_of_ble_eq_true rfl) dX7_all_104 ?_
  refine k_sx (x := 54) (by decide) ?_
  refine k_istore_3 (pc := 107) C dX7_all_107 rfl ?_
  refine k_aload_n (pc := 108) C dX7_all_108 rfl ?_
  refine k_aload_n (pc := 109) C dX7_all_109 rfl ?_
  refine k_getR (pc := 110) (r := some (8, 15, 0)) C fl_X7_47 k_in7 rfl rfl rfl dX7_all_110 ?_
  refine k_aload_n (pc := 113) C dX7_all_113 rfl ?_
  refine k_iload_n (pc := 114) C dX7_all_114 rfl ?_
  refine k_iload_n (pc := 115) C dX7_all_115 rfl ?_
  refine k_call4 (pc := 116) C cv_X7_203 (ct_X7_carries_O (f := 54) (by decide +kernel) hto rfl hl2 (by decide)) k_in7 rfl (by decide) rfl (Nat.le_of_ble_eq_true rfl) dX7_all_116 ?_
  refine k_sx (x := 60) (by decide) ?_
  refine k_istore_3 (pc := 119) C dX7_all_119 rfl ?_
  refine k_aload_n (pc := 120) C dX7_all_120 rfl ?_
  refine k_aload_n (pc := 121) C dX7_all_121 rfl ?_
  refine k_getR (pc := 122) (r := some (8, 16, 0)) C fl_X7_50 k_in7 rfl rfl rfl dX7_all_122 ?_
  refine k_aload_n (pc := 125) C dX7_all_125 rfl ?_
  refine k_iload_n (pc := 126) C dX7_all_126 rfl ?_
  refine k_iload_n (pc := 127) C dX7_all_127 rfl ?_
  refine k_call4 (pc := 128) C cv_X7_203 (ct_X7_carries_O (f := 60) (by decide +kernel) hto rfl hl2 (by decide)) k_in7 rfl (by decide) rfl (Nat.le_of_ble_eq_true rfl) dX7_all_128 ?_
  refine k_sx (x := 66) (by decide) ?_
  refine k_istore_3 (pc := 131) C dX7_all_131 rfl ?_
  refine k_aload_n (pc := 132) C dX7_all_132 rfl ?_
  refine k_aload_n (pc := 133) C dX7_all_133 rfl ?_
  refine k_getR (pc := 134) (r := some (8, 17, 0)) C fl_X7_53 k_in7 rfl rfl rfl dX7_all_134 ?_
  refine k_aload_n (pc := 137) C dX7_all_137 rfl ?_
  refine k_iload_n (pc := 138) C dX7_all_138 rfl ?_
  refine k_iload_n (pc := 139) C dX7_all_139 rfl ?_
  refine k_call4 (pc := 140) C cv_X7_203 (ct_X7_carries_O (f := 66) (by decide +kernel) hto rfl hl2 (by decide)) k_in7 rfl (by decide) rfl (Nat.le_of_ble_eq_true rfl) dX7_all_140 ?_
  refine k_sx (x := 72) (by decide) ?_
  refine k_istore_3 (pc := 143) C dX7_all_143 rfl ?_
  refine k_iload_n (pc := 144) C dX7_all_144 rfl ?_
  refine k_if_eqT (pc := 145) C 185 dX7_all_145 (by decide) (by decide) ?_
  refine k_aload_n (pc := 185) C dX7_all_185 rfl ?_
  refine k_iload_n (pc := 186) C dX7_all_186 rfl ?_
  refine k_aload_n (pc := 187) C dX7_all_187 rfl ?_
  refine k_getI (pc := 188) C fl_X7_129 k_in7 rfl rfl dX7_all_188 ?_
  refine k_iastX (pc := 191) (j := 72) C (by decide) (by assumption) rfl (by rw [hl2]; exact k_vd (by decide)) dX7_all_191 ?_
  refine k_aload_n (pc := 192) C dX7_all_192 rfl ?_
  refine k_iload_n (pc := 193) C dX7_all_193 rfl ?_
  refine k_iconst (pc := 194) (v := 1) C dX7_all_194 (by decide) ?_
  refine k_iadd (pc := 195) C dX7_all_195 ?_
  refine k_sx (x := 73) (by decide) ?_
  refine k_aload_n (pc := 196) C dX7_all_196 rfl ?_
  refine k_getI (pc := 197) C fl_X7_132 k_in7 rfl rfl dX7_all_197 ?_
  refine k_sx (x := (f_X7_crO (f_X7_crO (f_X7_crO (f_X7_crO (f_X7_crO (f_X7_crO (f_X7_crO (f_X7_crO (f_X7_crO (f_X7_crO (f_X7_crO (f_X7_crO mi 6 t 0 6) 7 t 6 6) 8 t 12 6) 9 t 18 6) 10 t 24 6) 11 t 30 6) 12 t 36 6) 13 t 42 6) 14 t 48 6) 15 t 54 6) 16 t 60 6) 17 t 66 6) (7, 0, 0) 1) (k_uk (by simp)) ?_
  refine k_iastX (pc := 200) (j := 73) C (by decide) (by assumption) rfl (by rw [hl2]; exact k_vd (by decide)) dX7_all_200 ?_
  refine k_aload_n (pc := 201) C dX7_all_201 rfl ?_
  refine k_iload_n (pc := 202) C dX7_all_202 rfl ?_
  refine k_iconst (pc := 203) (v := 2) C dX7_all_203 (by decide) ?_
  refine k_iadd (pc := 204) C dX7_all_204 ?_
  refine k_sx (x := 74) (by decide) ?_
  refine k_aload_n (pc := 205) C dX7_all_205 rfl ?_
  refine k_getI (pc := 206) C fl_X7_207 k_in7 rfl rfl dX7_all_206 ?_
  refine k_sx (x := (f_X7_crO (f_X7_crO (f_X7_crO (f_X7_crO (f_X7_crO (f_X7_crO (f_X7_crO (f_X7_crO (f_X7_crO (f_X7_crO (f_X7_crO (f_X7_crO mi 6 t 0 6) 7 t 6 6) 8 t 12 6) 9 t 18 6) 10 t 24 6) 11 t 30 6) 12 t 36 6) 13 t 42 6) 14 t 48 6) 15 t 54 6) 16 t 60 6) 17 t 66 6) (7, 0, 0) 2) (Eq.trans (k_uk (by simp)) (k_uk (by simp))) ?_
  refine k_iastX (pc := 209) (j := 74) C (by decide) (by assumption) rfl (by rw [hl2]; exact k_vd (by decide)) dX7_all_209 ?_
  refine k_aload_n (pc := 210) C dX7_all_210 rfl ?_
  refine k_iload_n (pc := 211) C dX7_all_211 rfl ?_
  refine k_iconst (pc := 212) (v := 3) C dX7_all_212 (by decide) ?_
  refine k_iadd (pc := 213) C dX7_all_213 ?_
  refine k_sx (x := 75) (by decide) ?_
  refine k_aload_n (pc := 214) C dX7_all_214 rfl ?_
  refine k_getI (pc := 215) C fl_X7_7 k_in7 rfl rfl dX7_all_215 ?_
  refine k_sx (x := (f_X7_crO (f_X7_crO (f_X7_crO (f_X7_crO (f_X7_crO (f_X7_crO (f_X7_crO (f_X7_crO (f_X7_crO (f_X7_crO (f_X7_crO (f_X7_crO mi 6 t 0 6) 7 t 6 6) 8 t 12 6) 9 t 18 6) 10 t 24 6) 11 t 30 6) 12 t 36 6) 13 t 42 6) 14 t 48 6) 15 t 54 6) 16 t 60 6) 17 t 66 6) (7, 0, 0) 3) (Eq.trans (k_uk (by simp)) (Eq.trans (k_uk (by simp)) (k_uk (by simp)))) ?_
  refine k_iastX (pc := 218) (j := 75) C (by decide) (by assumption) rfl (by rw [hl2]; exact k_vd (by decide)) dX7_all_218 ?_
  exact k_vret (pc := 219) C rfl (k_fm (by unfold f_X7_allO; try rfl)) dX7_all_219
def f_X7_allI (mi : MemI) (t : Nat) : MemI :=
  (k_ui (k_ui (k_ui (k_ui (f_X7_crI (f_X7_crI (f_X7_crI (f_X7_crI (f_X7_crI (f_X7_crI (f_X7_crI (f_X7_crI (f_X7_crI (f_X7_crI (f_X7_crI (f_X7_crI mi 6 t 0 6) 7 t 6 6) 8 t 12 6) 9 t 18 6) 10 t 24 6) 11 t 30 6) 12 t 36 6) 13 t 42 6) 14 t 48 6) 15 t 54 6) 16 t 60 6) 17 t 66 6) (7, 0, 0) 0 ((f_X7_crI (f_X7_crI (f_X7_crI (f_X7_crI (f_X7_crI (f_X7_crI (f_X7_crI (f_X7_crI (f_X7_crI (f_X7_crI (f_X7_crI (f_X7_crI mi 6 t 0 6) 7 t 6 6) 8 t 12 6) 9 t 18 6) 10 t 24 6) 11 t 30 6) 12 t 36 6) 13 t 42 6) 14 t 48 6) 15 t 54 6) 16 t 60 6) 17 t 66 6) (8, t, 0) 72)) (7, 0, 0) 1 ((f_X7_crI (f_X7_crI (f_X7_crI (f_X7_crI (f_X7_crI (f_X7_crI (f_X7_crI (f_X7_crI (f_X7_crI (f_X7_crI (f_X7_crI (f_X7_crI mi 6 t 0 6) 7 t 6 6) 8 t 12 6) 9 t 18 6) 10 t 24 6) 11 t 30 6) 12 t 36 6) 13 t 42 6) 14 t 48 6) 15 t 54 6) 16 t 60 6) 17 t 66 6) (8, t, 0) 73)) (7, 0, 0) 2 ((f_X7_crI (f_X7_crI (f_X7_crI (f_X7_crI (f_X7_crI (f_X7_crI (f_X7_crI (f_X7_crI (f_X7_crI (f_X7_crI (f_X7_crI (f_X7_crI mi 6 t 0 6) 7 t 6 6) 8 t 12 6) 9 t 18 6) 10 t 24 6) 11 t 30 6) 12 t 36 6) 13 t 42 6) 14 t 48 6) 15 t 54 6) 16 t 60 6) 17 t 66 6) (8, t, 0) 74)) (7, 0, 0) 3 ((f_X7_crI (f_X7_crI (f_X7_crI (f_X7_crI (f_X7_crI (f_X7_crI (f_X7_crI (f_X7_crI (f_X7_crI (f_X7_crI (f_X7_crI (f_X7_crI mi 6 t 0 6) 7 t 6 6) 8 t 12 6) 9 t 18 6) 10 t 24 6) 11 t 30 6) 12 t 36 6) 13 t 42 6) 14 t 48 6) 15 t 54 6) 16 t 60 6) 17 t 66 6) (8, t, 0) 75))
set_option maxRecDepth 100000 in
set_option maxHeartbeats 4000000 in
theorem ct_X7_all_I {mi : MemI} {ml : MemL} {t : Nat} (hto : (8, t, 0) ∈ k_KS) (hl2 : k_ln (8, t, 0) = 80) : k_Ct k_KS k_R0 Mt_X7_all 1 [vR (7, 0, 0), vR (8, t, 0), vI 1] mi ml (k_rt none (f_X7_allI mi t) ml) := by
  refine k_ofV (L0 := [vR (7, 0, 0), vR (8, t, 0), vI 1, vU]) (by decide +kernel) (Nat.le_of_ble_eq_true rfl) rfl rfl ?_
  intro p l e s m args below meth c D cy ad bs C
  refine k_aload_n (pc := 0) C dX7_all_0 rfl ?_
  refine k_aload_n (pc := 1) C dX7_all_1 rfl ?_
  refine k_getR (pc := 2) (r := some (8, 6, 0)) C fl_X7_20 k_in7 rfl rfl rfl dX7_all_2 ?_
  refine k_aload_n (pc := 5) C dX7_all_5 rfl ?_
  refine k_iconst (pc := 6) (v := 0) C dX7_all_6 (by decide) ?_
  refine k_iload_n (pc := 7) C dX7_all_7 rfl ?_
  refine k_call4 (pc := 8) C cv_X7_203 (ct_X7_carries_I (f := 0) (by decide +kernel) hto rfl hl2 (by decide)) k_in7 rfl (by decide) rfl (Nat.le_of_ble_eq_true rfl) dX7_all_8 ?_
  refine k_sx (x := 6) (by decide) ?_
  refine k_istore_3 (pc := 11) C dX7_all_11 rfl ?_
  refine k_aload_n (pc := 12) C dX7_all_12 rfl ?_
  refine k_aload_n (pc := 13) C dX7_all_13 rfl ?_
  refine k_getR (pc := 14) (r := some (8, 7, 0)) C fl_X7_23 k_in7 rfl rfl rfl dX7_all_14 ?_
  refine k_aload_n (pc := 17) C dX7_all_17 rfl ?_
  refine k_iload_n (pc := 18) C dX7_all_18 rfl ?_
  refine k_iload_n (pc := 19) C dX7_all_19 rfl ?_
  refine k_call4 (pc := 20) C cv_X7_203 (ct_X7_carries_I (f := 6) (by decide +kernel) hto rfl hl2 (by decide)) k_in7 rfl (by decide) rfl (Nat.le_of_ble_eq_true rfl) dX7_all_20 ?_
  refine k_sx (x := 12) (by decide) ?_
  refine k_istore_3 (pc := 23) C dX7_all_23 rfl ?_
  refine k_aload_n (pc := 24) C dX7_all_24 rfl ?_
  refine k_aload_n (pc := 25) C dX7_all_25 rfl ?_
  refine k_getR (pc := 26) (r := some (8, 8, 0)) C fl_X7_26 k_in7 rfl rfl rfl dX7_all_26 ?_
  refine k_aload_n (pc := 29) C dX7_all_29 rfl ?_
  refine k_iload_n (pc := 30) C dX7_all_30 rfl ?_
  refine k_iload_n (pc := 31) C dX7_all_31 rfl ?_
  refine k_call4 (pc := 32) C cv_X7_203 (ct_X7_carries_I (f := 12) (by decide +kernel) hto rfl hl2 (by decide)) k_in7 rfl (by decide) rfl (Nat.le_of_ble_eq_true rfl) dX7_all_32 ?_
  refine k_sx (x := 18) (by decide) ?_
  refine k_istore_3 (pc := 35) C dX7_all_35 rfl ?_
  refine k_aload_n (pc := 36) C dX7_all_36 rfl ?_
  refine k_aload_n (pc := 37) C dX7_all_37 rfl ?_
  refine k_getR (pc := 38) (r := some (8, 9, 0)) C fl_X7_29 k_in7 rfl rfl rfl dX7_all_38 ?_
  refine k_aload_n (pc := 41) C dX7_all_41 rfl ?_
  refine k_iload_n (pc := 42) C dX7_all_42 rfl ?_
  refine k_iload_n (pc := 43) C dX7_all_43 rfl ?_
  refine k_call4 (pc := 44) C cv_X7_203 (ct_X7_carries_I (f := 18) (by decide +kernel) hto rfl hl2 (by decide)) k_in7 rfl (by decide) rfl (Nat.le_of_ble_eq_true rfl) dX7_all_44 ?_
  refine k_sx (x := 24) (by decide) ?_
  refine k_istore_3 (pc := 47) C dX7_all_47 rfl ?_
  refine k_aload_n (pc := 48) C dX7_all_48 rfl ?_
  refine k_aload_n (pc := 49) C dX7_all_49 rfl ?_
  refine k_getR (pc := 50) (r := some (8, 10, 0)) C fl_X7_32 k_in7 rfl rfl rfl dX7_all_50 ?_
  refine k_aload_n (pc := 53) C dX7_all_53 rfl ?_
  refine k_iload_n (pc := 54) C dX7_all_54 rfl ?_
  refine k_iload_n (pc := 55) C dX7_all_55 rfl ?_
  refine k_call4 (pc := 56) C cv_X7_203 (ct_X7_carries_I (f := 24) (by decide +kernel) hto rfl hl2 (by decide)) k_in7 rfl (by decide) rfl (Nat.le_of_ble_eq_true rfl) dX7_all_56 ?_
  refine k_sx (x := 30) (by decide) ?_
  refine k_istore_3 (pc := 59) C dX7_all_59 rfl ?_
  refine k_aload_n (pc := 60) C dX7_all_60 rfl ?_
  refine k_aload_n (pc := 61) C dX7_all_61 rfl ?_
  refine k_getR (pc := 62) (r := some (8, 11, 0)) C fl_X7_35 k_in7 rfl rfl rfl dX7_all_62 ?_
  refine k_aload_n (pc := 65) C dX7_all_65 rfl ?_
  refine k_iload_n (pc := 66) C dX7_all_66 rfl ?_
  refine k_iload_n (pc := 67) C dX7_all_67 rfl ?_
  refine k_call4 (pc := 68) C cv_X7_203 (ct_X7_carries_I (f := 30) (by decide +kernel) hto rfl hl2 (by decide)) k_in7 rfl (by decide) rfl (Nat.le_of_ble_eq_true rfl) dX7_all_68 ?_
  refine k_sx (x := 36) (by decide) ?_
  refine k_istore_3 (pc := 71) C dX7_all_71 rfl ?_
  refine k_aload_n (pc := 72) C dX7_all_72 rfl ?_
  refine k_aload_n (pc := 73) C dX7_all_73 rfl ?_
  refine k_getR (pc := 74) (r := some (8, 12, 0)) C fl_X7_38 k_in7 rfl rfl rfl dX7_all_74 ?_
  refine k_aload_n (pc := 77) C dX7_all_77 rfl ?_
  refine k_iload_n (pc := 78) C dX7_all_78 rfl ?_
  refine k_iload_n (pc := 79) C dX7_all_79 rfl ?_
  refine k_call4 (pc := 80) C cv_X7_203 (ct_X7_carries_I (f := 36) (by decide +kernel) hto rfl hl2 (by decide)) k_in7 rfl (by decide) rfl (Nat.le_of_ble_eq_true rfl) dX7_all_80 ?_
  refine k_sx (x := 42) (by decide) ?_
  refine k_istore_3 (pc := 83) C dX7_all_83 rfl ?_
  refine k_aload_n (pc := 84) C dX7_all_84 rfl ?_
  refine k_aload_n (pc := 85) C dX7_all_85 rfl ?_
  refine k_getR (pc := 86) (r := some (8, 13, 0)) C fl_X7_41 k_in7 rfl rfl rfl dX7_all_86 ?_
  refine k_aload_n (pc := 89) C dX7_all_89 rfl ?_
  refine k_iload_n (pc := 90) C dX7_all_90 rfl ?_
  refine k_iload_n (pc := 91) C dX7_all_91 rfl ?_
  refine k_call4 (pc := 92) C cv_X7_203 (ct_X7_carries_I (f := 42) (by decide +kernel) hto rfl hl2 (by decide)) k_in7 rfl (by decide) rfl (Nat.le_of_ble_eq_true rfl) dX7_all_92 ?_
  refine k_sx (x := 48) (by decide) ?_
  refine k_istore_3 (pc := 95) C dX7_all_95 rfl ?_
  refine k_aload_n (pc := 96) C dX7_all_96 rfl ?_
  refine k_aload_n (pc := 97) C dX7_all_97 rfl ?_
  refine k_getR (pc := 98) (r := some (8, 14, 0)) C fl_X7_44 k_in7 rfl rfl rfl dX7_all_98 ?_
  refine k_aload_n (pc := 101) C dX7_all_101 rfl ?_
  refine k_iload_n (pc := 102) C dX7_all_102 rfl ?_
  refine k_iload_n (pc := 103) C dX7_all_103 rfl ?_
  refine k_call4 (pc := 104) C cv_X7_203 (ct_X7_carries_I (f := 48) (by decide +kernel) hto rfl hl2 (by decide)) k_in7 rfl (by decide) rfl (Nat.le_of_ble_eq_true rfl) dX7_all_104 ?_
  refine k_sx (x := 54) (by decide) ?_
  refine k_istore_3 (pc := 107) C dX7_all_107 rfl ?_
  refine k_aload_n (pc := 108) C dX7_all_108 rfl ?_
  refine k_aload_n (pc := 109) C dX7_all_109 rfl ?_
  refine k_getR (pc := 110) (r := some (8, 15, 0)) C fl_X7_47 k_in7 rfl rfl rfl dX7_all_110 ?_
  refine k_aload_n (pc := 113) C dX7_all_113 rfl ?_
  refine k_iload_n (pc := 114) C dX7_all_114 rfl ?_
  refine k_iload_n (pc := 115) C dX7_all_115 rfl ?_
  refine k_call4 (pc := 116) C cv_X7_203 (ct_X7_carries_I (f := 54) (by decide +kernel) hto rfl hl2 (by decide)) k_in7 rfl (by decide) rfl (Nat.le_of_ble_eq_true rfl) dX7_all_116 ?_
  refine k_sx (x := 60) (by decide) ?_
  refine k_istore_3 (pc := 119) C dX7_all_119 rfl ?_
  refine k_aload_n (pc := 120) C dX7_all_120 rfl ?_
  refine k_aload_n (pc := 121) C dX7_all_121 rfl ?_
  refine k_getR (pc := 122) (r := some (8, 16, 0)) C fl_X7_50 k_in7 rfl rfl rfl dX7_all_122 ?_
  refine k_aload_n (pc := 125) C dX7_all_125 rfl ?_
  refine k_iload_n (pc := 126) C dX7_all_126 rfl ?_
  refine k_iload_n (pc := 127) C dX7_all_127 rfl ?_
  refine k_call4 (pc := 128) C cv_X7_203 (ct_X7_carries_I (f := 60) (by decide +kernel) hto rfl hl2 (by decide)) k_in7 rfl (by decide) rfl (Nat.le_of_ble_eq_true rfl) dX7_all_128 ?_
  refine k_sx (x := 66) (by decide) ?_
  refine k_istore_3 (pc := 131) C dX7_all_131 rfl ?_
  refine k_aload_n (pc := 132) C dX7_all_132 rfl ?_
  refine k_aload_n (pc := 133) C dX7_all_133 rfl ?_
  refine k_getR (pc := 134) (r := some (8, 17, 0)) C fl_X7_53 k_in7 rfl rfl rfl dX7_all_134 ?_
  refine k_aload_n (pc := 137) C dX7_all_137 rfl ?_
  refine k_iload_n (pc := 138) C dX7_all_138 rfl ?_
  refine k_iload_n (pc := 139) C dX7_all_139 rfl ?_
  refine k_call4 (pc := 140) C cv_X7_203 (ct_X7_carries_I (f := 66) (by decide +kernel) hto rfl hl2 (by decide)) k_in7 rfl (by decide) rfl (Nat.le_of_ble_eq_true rfl) dX7_all_140 ?_
  refine k_sx (x := 72) (by decide) ?_
  refine k_istore_3 (pc := 143) C dX7_all_143 rfl ?_
  refine k_iload_n (pc := 144) C dX7_all_144 rfl ?_
  refine k_if_eqF (pc := 145) C 185 dX7_all_145 (by decide) (by decide) ?_
  refine k_aload_n (pc := 148) C dX7_all_148 rfl ?_
  refine k_aload_n (pc := 149) C dX7_all_149 rfl ?_
  refine k_iload_n (pc := 150) C dX7_all_150 rfl ?_
  refine k_ialdX (pc := 151) (j := 72) C (by decide) (by assumption) rfl (by rw [hl2]; exact k_vd (by decide)) dX7_all_151 ?_
  refine k_putI (pc := 152) C pl_X7_129 k_in7 rfl rfl dX7_all_152 ?_
  refine k_aload_n (pc := 155) C dX7_all_155 rfl ?_
  refine k_aload_n (pc := 156) C dX7_all_156 rfl ?_
  refine k_iload_n (pc := 157) C dX7_all_157 rfl ?_
  refine k_iconst (pc := 158) (v := 1) C dX7_all_158 (by decide) ?_
  refine k_iadd (pc := 159) C dX7_all_159 ?_
  refine k_sx (x := 73) (by decide) ?_
  refine k_ialdX (pc := 160) (j := 73) C (by decide) (by assumption) rfl (by rw [hl2]; exact k_vd (by decide)) dX7_all_160 ?_
  refine k_sx (x := (f_X7_crI (f_X7_crI (f_X7_crI (f_X7_crI (f_X7_crI (f_X7_crI (f_X7_crI (f_X7_crI (f_X7_crI (f_X7_crI (f_X7_crI (f_X7_crI mi 6 t 0 6) 7 t 6 6) 8 t 12 6) 9 t 18 6) 10 t 24 6) 11 t 30 6) 12 t 36 6) 13 t 42 6) 14 t 48 6) 15 t 54 6) 16 t 60 6) 17 t 66 6) (8, t, 0) 73) (k_uk (by simp)) ?_
  refine k_putI (pc := 161) C pl_X7_132 k_in7 rfl rfl dX7_all_161 ?_
  refine k_aload_n (pc := 164) C dX7_all_164 rfl ?_
  refine k_aload_n (pc := 165) C dX7_all_165 rfl ?_
  refine k_iload_n (pc := 166) C dX7_all_166 rfl ?_
  refine k_iconst (pc := 167) (v := 2) C dX7_all_167 (by decide) ?_
  refine k_iadd (pc := 168) C dX7_all_168 ?_
  refine k_sx (x := 74) (by decide) ?_
  refine k_ialdX (pc := 169) (j := 74) C (by decide) (by assumption) rfl (by rw [hl2]; exact k_vd (by decide)) dX7_all_169 ?_
  refine k_sx (x := (f_X7_crI (f_X7_crI (f_X7_crI (f_X7_crI (f_X7_crI (f_X7_crI (f_X7_crI (f_X7_crI (f_X7_crI (f_X7_crI (f_X7_crI (f_X7_crI mi 6 t 0 6) 7 t 6 6) 8 t 12 6) 9 t 18 6) 10 t 24 6) 11 t 30 6) 12 t 36 6) 13 t 42 6) 14 t 48 6) 15 t 54 6) 16 t 60 6) 17 t 66 6) (8, t, 0) 74) (Eq.trans (k_uk (by simp)) (k_uk (by simp))) ?_
  refine k_putI (pc := 170) C pl_X7_207 k_in7 rfl rfl dX7_all_170 ?_
  refine k_aload_n (pc := 173) C dX7_all_173 rfl ?_
  refine k_aload_n (pc := 174) C dX7_all_174 rfl ?_
  refine k_iload_n (pc := 175) C dX7_all_175 rfl ?_
  refine k_iconst (pc := 176) (v := 3) C dX7_all_176 (by decide) ?_
  refine k_iadd (pc := 177) C dX7_all_177 ?_
  refine k_sx (x := 75) (by decide) ?_
  refine k_ialdX (pc := 178) (j := 75) C (by decide) (by assumption) rfl (by rw [hl2]; exact k_vd (by decide)) dX7_all_178 ?_
  refine k_sx (x := (f_X7_crI (f_X7_crI (f_X7_crI (f_X7_crI (f_X7_crI (f_X7_crI (f_X7_crI (f_X7_crI (f_X7_crI (f_X7_crI (f_X7_crI (f_X7_crI mi 6 t 0 6) 7 t 6 6) 8 t 12 6) 9 t 18 6) 10 t 24 6) 11 t 30 6) 12 t 36 6) 13 t 42 6) 14 t 48 6) 15 t 54 6) 16 t 60 6) 17 t 66 6) (8, t, 0) 75) (Eq.trans (k_uk (by simp)) (Eq.trans (k_uk (by simp)) (k_uk (by simp)))) ?_
  refine k_putI (pc := 179) C pl_X7_7 k_in7 rfl rfl dX7_all_179 ?_
  refine k_goto (pc := 182) C 219 dX7_all_182 (by decide) ?_
  exact k_vret (pc := 219) C rfl (k_fm (by unfold f_X7_allI; try rfl)) dX7_all_219
theorem crO_fr {mi : MemI} {fo t f : Nat} {k : Ky} (h : k ≠ (8, t, 0)) : ∀ j q, f_X7_crO mi fo t f j k q = mi k q := by
  intro j q
  induction j with
  | zero => rfl
  | succ j ih => rw [f_X7_crO_s, k_uk h, ih]
theorem allO_fr {mi : MemI} {t : Nat} {k : Ky} (h : k ≠ (8, t, 0)) (q : Nat) : f_X7_allO mi t k q = mi k q := by
  unfold f_X7_allO
  simp only [k_uk h, crO_fr h]
theorem mo_fr {nC nB : Nat} {mi m : MemI} (h : k_mo nC nB mi) (h1 : ∀ j, m (7, 0, 0) j = mi (7, 0, 0) j) (h2 : ∀ j, m (8, 15, 0) j = mi (8, 15, 0) j) : k_mo nC nB m := by
  obtain ⟨a1, a2, a3, a4, a5⟩ := h
  exact ⟨(h1 0).trans a1, a2, (h1 1).trans a3, a4, fun b hb => by rw [h2]; exact a5 b hb⟩
theorem mo_allO {nC nB : Nat} {mi : MemI} {t : Nat} (h : k_mo nC nB mi) (ht : t ≠ 15) : k_mo nC nB (f_X7_allO mi t) :=
  mo_fr h (fun j => allO_fr (by simp) j) (fun j => allO_fr (by simpa using Ne.symm ht) j)
theorem go2_pk {nC nB : Nat} {mi : MemI} (h : k_mo nC nB mi) : ∀ j, j ≤ nB → ∀ b, b < j → (f_X7_go2 mi nC j) (8, 37, 0) b = -1 ∨ vp_in ((f_X7_go2 mi nC j) (8, 37, 0) b) nC := by
  intro j
  induction j with
  | zero => intro _ b hb; omega
  | succ j ih =>
    intro hj b hb
    have ih2 := ih (by omega)
    have hlt := picksBy_lt (mi := k_ui (k_ui (f_X7_go2 mi nC j) (8, 37, 0) j (-1)) (8, 41, 0) j 0) (b := j) (r := (f_X7_go2 mi nC j) (8, 14, 0) j) (k_mo_ui (k_mo_ui (mo_go2 h j) (by simp) (by simp)) (by simp) (by simp)) (show j < nB by omega)
    have h6 := h.2.1
    rw [f_X7_go2_s]
    by_cases hbj : b = j
    · subst hbj
      repeat' split
      all_goals first
        | (left; simp only [k_uk (show ((8, 37, 0) : Ky) ≠ (8, 41, 0) by decide), k_uk (show ((8, 37, 0) : Ky) ≠ (7, 0, 0) by decide), k_uk (show ((8, 37, 0) : Ky) ≠ (8, 38, 0) by decide), k_uk (show ((8, 37, 0) : Ky) ≠ (8, 39, 0) by decide), k_uk (show ((8, 37, 0) : Ky) ≠ (8, 40, 0) by decide), k_uis]; done)
        | (right; simp only [k_uk (show ((8, 37, 0) : Ky) ≠ (8, 41, 0) by decide), k_uk (show ((8, 37, 0) : Ky) ≠ (7, 0, 0) by decide), k_uk (show ((8, 37, 0) : Ky) ≠ (8, 38, 0) by decide), k_uk (show ((8, 37, 0) : Ky) ≠ (8, 39, 0) by decide), k_uk (show ((8, 37, 0) : Ky) ≠ (8, 40, 0) by decide), k_uis]; exact vp_in_nI (by omega) (by omega))
    · have hb2 := ih2 b (by omega)
      repeat' split
      all_goals (simp only [k_uk (show ((8, 37, 0) : Ky) ≠ (8, 41, 0) by decide), k_uk (show ((8, 37, 0) : Ky) ≠ (7, 0, 0) by decide), k_uk (show ((8, 37, 0) : Ky) ≠ (8, 38, 0) by decide), k_uk (show ((8, 37, 0) : Ky) ≠ (8, 39, 0) by decide), k_uk (show ((8, 37, 0) : Ky) ≠ (8, 40, 0) by decide), k_uj hbj]; exact hb2)
theorem goes_pk {nC nB : Nat} {mi : MemI} (h : k_mo nC nB mi) : k_pk nC nB (f_X7_goes mi nC nB) :=
  fun b hb => go2_pk (mo_go1 (k_mo_ui (k_mo_ui h (by simp) (by simp)) (by simp) (by simp)) nC) nB (Nat.le_refl _) b hb
theorem ps1_fr {mi : MemI} {k : Ky} (h1 : k ≠ (8, 10, 0)) (h2 : k ≠ (8, 11, 0)) : ∀ j j', f_X7_ps1 mi j k j' = mi k j' := by
  intro j j'
  induction j with
  | zero => rfl
  | succ j ih =>
    rw [f_X7_ps1_s]
    repeat' split
    all_goals simp only [k_uk h1, k_uk h2, ih]
theorem ps2_last {nC nB : Nat} {mi : MemI} (hl : ∀ b, b < nB → mi (8, 15, 0) b = -1 ∨ vp_in (mi (8, 15, 0) b) nC) (hp : k_pk nC nB mi) : ∀ j, j ≤ nB → ∀ b, b < nB → (f_X7_ps2 mi j) (8, 15, 0) b = -1 ∨ vp_in ((f_X7_ps2 mi j) (8, 15, 0) b) nC := by
  intro j
  induction j with
  | zero => intro _ b hb; exact hl b hb
  | succ j ih =>
    intro hj b hb
    have ih2 := ih (by omega) b hb
    have hpj := hp j (by omega)
    rw [← ps2_fr (mi := mi) (k := (8, 37, 0)) (by decide) (by decide) j j] at hpj
    rw [f_X7_ps2_s]
    by_cases hbj : b = j
    · subst hbj
      repeat' split
      all_goals try simp only [k_uk (show ((8, 15, 0) : Ky) ≠ (8, 16, 0) by decide), k_uis]
      all_goals first | exact ih2 | exact hpj
    · repeat' split
      all_goals try simp only [k_uk (show ((8, 15, 0) : Ky) ≠ (8, 16, 0) by decide), k_uj hbj]
      all_goals exact ih2
theorem mo_passes {nC nB : Nat} {mi : MemI} (h : k_mo nC nB mi) : k_mo nC nB (f_X7_passes mi nC nB) := by
  have h1 := mo_ps1 (mo_goes h) nC
  have hp : k_pk nC nB (f_X7_ps1 (f_X7_goes mi nC nB) nC) := fun b hb => by
    rw [ps1_fr (by decide) (by decide)]; exact goes_pk h b hb
  have h2 : k_mo nC nB (f_X7_ps2 (f_X7_ps1 (f_X7_goes mi nC nB) nC) nB) := by
    obtain ⟨a1, a2, a3, a4, a5⟩ := h1
    exact ⟨(ps2_fr (by decide) (by decide) nB 0).trans a1, a2, (ps2_fr (by decide) (by decide) nB 1).trans a3, a4, ps2_last a5 hp nB (Nat.le_refl _)⟩
  exact k_mo_ui h2 (by simp) (by simp)
def f_X7_moL (mi : MemI) (nC : Nat) (nB : Nat) : Nat → Int32 × MemI
  | 0 => (0, mi)
  | j + 1 =>
    (((f_X7_moL mi nC nB j).1) + ((f_X7_passes ((f_X7_moL mi nC nB j).2) nC nB) (7, 0, 0) 42), f_X7_passes ((f_X7_moL mi nC nB j).2) nC nB)
theorem f_X7_moL_s (mi : MemI) (nC : Nat) (nB : Nat) (j : Nat) : f_X7_moL mi nC nB (j + 1) =
    (((f_X7_moL mi nC nB j).1) + ((f_X7_passes ((f_X7_moL mi nC nB j).2) nC nB) (7, 0, 0) 42), f_X7_passes ((f_X7_moL mi nC nB j).2) nC nB) := rfl
theorem mo_moL {nC nB : Nat} {mi : MemI}  (h : k_mo nC nB mi) : ∀ j, k_mo nC nB ((f_X7_moL mi nC nB j).2) := by
  intro j
  induction j with
  | zero => exact h
  | succ j ih =>
    rw [f_X7_moL_s]
    repeat' split
    all_goals exact mo_passes ih
def f_X7_mornings (mi : MemI) (n : Int32) (nC : Nat) (nB : Nat) : Int32 × MemI :=
  if (f_X7_isFrom n 1 60) = 0 then ((f_X7_no mi (-6)).1, (f_X7_no mi (-6)).2)
  else (((f_X7_moL mi nC nB n.toNatClampNeg).1), (f_X7_moL mi nC nB n.toNatClampNeg).2)
set_option maxRecDepth 100000 in
set_option maxHeartbeats 4000000 in
theorem ct_X7_mornings {mi : MemI} {ml : MemL} {n : Int32} {nC : Nat} {nB : Nat} (hm : k_mo nC nB mi) : k_Ct k_KS k_R0 Mt_X7_mornings 4 [vR (7, 0, 0), vI n] mi ml (k_rt (some (vI (f_X7_mornings mi n nC nB).1)) (f_X7_mornings mi n nC nB).2 ml) := by
  refine k_ofV (L0 := [vR (7, 0, 0), vI n, vU, vU]) (by decide +kernel) (Nat.le_of_ble_eq_true rfl) rfl rfl ?_
  intro p l e s m args below meth c D cy ad bs C
  have hC := hm.1
  have h6 := hm.2.1
  have hB := hm.2.2.1
  have h6b := hm.2.2.2.1
  refine k_aload_n (pc := 0) C dX7_mornings_0 rfl ?_
  refine k_iload_n (pc := 1) C dX7_mornings_1 rfl ?_
  refine k_iconst (pc := 2) (v := 1) C dX7_mornings_2 (by decide) ?_
  refine k_bipush (pc := 3) (v := 60) C dX7_mornings_3 (by decide) ?_
  refine k_call3 (pc := 5) C cv_X7_149 ct_X7_isFrom k_in7 rfl (by decide) rfl (Nat.le_of_ble_eq_true rfl) dX7_mornings_5 ?_
  refine k_if_ne (pc := 8) C 18 dX7_mornings_8 (by decide) (fun c8 => ?_) (fun c8 => ?_)
  · skip
    refine k_iconst (pc := 18) (v := 0) C dX7_mornings_18 (by decide) ?_
    refine k_istore_2 (pc := 19) C dX7_mornings_19 rfl ?_
    refine k_iconst (pc := 20) (v := 0) C dX7_mornings_20 (by decide) ?_
    refine k_istore_3 (pc := 21) C dX7_mornings_21 rfl ?_
    refine k_cast (L' := [vR (7, 0, 0), vI n, vI ((f_X7_moL mi nC nB 0).1), vI (nI 0)]) (mi' := (f_X7_moL mi nC nB 0).2) (ml' := ml) rfl rfl rfl ?_
    refine k_down (P := fun j => k_V p l e (k_rm 4) s m args below meth c D cy ad bs k_KS k_R0 0 0 (k_End below D cy ad bs k_KS k_R0 (k_rt (some (vI (f_X7_mornings mi n nC nB).1)) (f_X7_mornings mi n nC nB).2 ml) args s) ((f_X7_moL mi nC nB j).2) ml 22 [vR (7, 0, 0), vI n, vI ((f_X7_moL mi nC nB j).1), vI (nI j)] []) n.toNatClampNeg ?_ (fun j hj hk => ?_)
    · skip
      refine k_iload_n (pc := 22) C dX7_mornings_22 rfl ?_
      refine k_iload_n (pc := 23) C dX7_mornings_23 rfl ?_
      refine k_icmp_geT (pc := 24) C 44 dX7_mornings_24 (by decide) (k_leN (isFrom_nn (by assumption) (by decide))) ?_
      refine k_iload_n (pc := 44) C dX7_mornings_44 rfl ?_
      exact k_iret (pc := 45) C rfl  (k_fIm (by unfold f_X7_mornings; rw [if_neg c8]; try rfl)) dX7_mornings_45
    · skip
      try dsimp only at hk
      have hmj : k_mo nC nB ((f_X7_moL mi nC nB j).2) := mo_moL hm j
      refine k_iload_n (pc := 22) C dX7_mornings_22 rfl ?_
      refine k_iload_n (pc := 23) C dX7_mornings_23 rfl ?_
      refine k_icmp_geF (pc := 24) C 44 dX7_mornings_24 (by decide) (k_ngeN (isFrom_nn (by assumption) (by decide)) hj) ?_
      refine k_aload_n (pc := 27) C dX7_mornings_27 rfl ?_
      refine k_callv0 (pc := 28) C cv_X7_242 (ct_X7_passes hmj) k_in7 rfl (by decide) rfl (Nat.le_of_ble_eq_true rfl) dX7_mornings_28 ?_
      refine k_iload_n (pc := 31) C dX7_mornings_31 rfl ?_
      refine k_aload_n (pc := 32) C dX7_mornings_32 rfl ?_
      refine k_getI (pc := 33) C fl_X7_227 k_in7 rfl rfl dX7_mornings_33 ?_
      refine k_iadd (pc := 36) C dX7_mornings_36 ?_
      refine k_istore_2 (pc := 37) C dX7_mornings_37 rfl ?_
      refine k_iinc_3 (pc := 38) (v := nI (j + 1)) C dX7_mornings_38 (k_inc j) rfl ?_
      refine k_goto (pc := 41) C 22 dX7_mornings_41 (by decide) ?_
      exact k_cast (by rw [f_X7_moL_s]) (by rw [f_X7_moL_s]) rfl hk
  · skip
    refine k_aload_n (pc := 11) C dX7_mornings_11 rfl ?_
    refine k_bipush (pc := 12) (v := (-6)) C dX7_mornings_12 (by decide) ?_
    refine k_call1 (pc := 14) C cv_X7_139 (ct_X7_no (k_vd (by decide))) k_in7 rfl (by decide) rfl (Nat.le_of_ble_eq_true rfl) dX7_mornings_14 ?_
    exact k_iret (pc := 17) C rfl  (k_fIm (by unfold f_X7_mornings; rw [if_pos c8]; try rfl)) dX7_mornings_17
def f_X7_weL (mi : MemI) (nC : Nat) (nB : Nat) : Nat → MemI
  | 0 => mi
  | j + 1 =>
    (f_X7_passes (f_X7_weL mi nC nB j) nC nB)
theorem f_X7_weL_s (mi : MemI) (nC : Nat) (nB : Nat) (j : Nat) : f_X7_weL mi nC nB (j + 1) =
    (f_X7_passes (f_X7_weL mi nC nB j) nC nB) := rfl
theorem mo_weL {nC nB : Nat} {mi : MemI}  (h : k_mo nC nB mi) : ∀ j, k_mo nC nB (f_X7_weL mi nC nB j) := by
  intro j
  induction j with
  | zero => exact h
  | succ j ih =>
    rw [f_X7_weL_s]
    repeat' split
    all_goals exact mo_passes ih
def f_X7_wear (mi : MemI) (cz : Int32) (n : Int32) (nC : Nat) (nB : Nat) : Int32 × MemI :=
  if (f_X7_isCitizen mi cz) = 0 then ((f_X7_no mi (-1)).1, (f_X7_no mi (-1)).2)
  else if (f_X7_isFrom n 0 40) = 0 then ((f_X7_no mi (-6)).1, (f_X7_no mi (-6)).2)
    else ((f_X7_weL (f_X7_allO mi 35) nC nB n.toNatClampNeg) (8, 10, 0) cz.toNatClampNeg, f_X7_allI (f_X7_weL (f_X7_allO mi 35) nC nB n.toNatClampNeg) 35)
set_option maxRecDepth 100000 in
set_option maxHeartbeats 4000000 in
theorem ct_X7_wear {mi : MemI} {ml : MemL} {cz : Int32} {n : Int32} {nC : Nat} {nB : Nat} (hm : k_mo nC nB mi) : k_Ct k_KS k_R0 Mt_X7_wear 4 [vR (7, 0, 0), vI cz, vI n] mi ml (k_rt (some (vI (f_X7_wear mi cz n nC nB).1)) (f_X7_wear mi cz n nC nB).2 ml) := by
  refine k_ofV (L0 := [vR (7, 0, 0), vI cz, vI n, vU]) (by decide +kernel) (Nat.le_of_ble_eq_true rfl) rfl rfl ?_
  intro p l e s m args below meth c D cy ad bs C
  have hC := hm.1
  have h6 := hm.2.1
  have hB := hm.2.2.1
  have h6b := hm.2.2.2.1
  refine k_aload_n (pc := 0) C dX7_wear_0 rfl ?_
  refine k_iload_n (pc := 1) C dX7_wear_1 rfl ?_
  refine k_call1 (pc := 2) C cv_X7_143 ct_X7_isCitizen k_in7 rfl (by decide) rfl (Nat.le_of_ble_eq_true rfl) dX7_wear_2 ?_
  refine k_if_ne (pc := 5) C 14 dX7_wear_5 (by decide) (fun c5 => ?_) (fun c5 => ?_)
  · skip
    have qc5 := vp_mono (isCitizen_in hC h6 c5) h6
    refine k_aload_n (pc := 14) C dX7_wear_14 rfl ?_
    refine k_iload_n (pc := 15) C dX7_wear_15 rfl ?_
    refine k_iconst (pc := 16) (v := 0) C dX7_wear_16 (by decide) ?_
    refine k_bipush (pc := 17) (v := 40) C dX7_wear_17 (by decide) ?_
    refine k_call3 (pc := 19) C cv_X7_149 ct_X7_isFrom k_in7 rfl (by decide) rfl (Nat.le_of_ble_eq_true rfl) dX7_wear_19 ?_
    refine k_if_ne (pc := 22) C 32 dX7_wear_22 (by decide) (fun c22 => ?_) (fun c22 => ?_)
    · skip
      refine k_aload_n (pc := 32) C dX7_wear_32 rfl ?_
      refine k_aload_n (pc := 33) C dX7_wear_33 rfl ?_
      refine k_getR (pc := 34) (r := some (8, 35, 0)) C fl_X7_93 k_in7 rfl rfl rfl dX7_wear_34 ?_
      refine k_iconst (pc := 37) (v := 0) C dX7_wear_37 (by decide) ?_
      refine k_callv2 (pc := 38) C cv_X7_213 (ct_X7_all_O (by decide +kernel) rfl) k_in7 rfl (by decide) rfl (Nat.le_of_ble_eq_true rfl) dX7_wear_38 ?_
      refine k_iconst (pc := 41) (v := 0) C dX7_wear_41 (by decide) ?_
      refine k_istore_3 (pc := 42) C dX7_wear_42 rfl ?_
      refine k_cast (L' := [vR (7, 0, 0), vI cz, vI n, vI (nI 0)]) (mi' := f_X7_weL (f_X7_allO mi 35) nC nB 0) (ml' := ml) rfl rfl rfl ?_
      refine k_down (P := fun j => k_V p l e (k_rm 4) s m args below meth c D cy ad bs k_KS k_R0 0 0 (k_End below D cy ad bs k_KS k_R0 (k_rt (some (vI (f_X7_wear mi cz n nC nB).1)) (f_X7_wear mi cz n nC nB).2 ml) args s) (f_X7_weL (f_X7_allO mi 35) nC nB j) ml 43 [vR (7, 0, 0), vI cz, vI n, vI (nI j)] []) n.toNatClampNeg ?_ (fun j hj hk => ?_)
      · skip
        refine k_iload_n (pc := 43) C dX7_wear_43 rfl ?_
        refine k_iload_n (pc := 44) C dX7_wear_44 rfl ?_
        refine k_icmp_geT (pc := 45) C 58 dX7_wear_45 (by decide) (k_leN (isFrom_nn (by assumption) (by decide))) ?_
        refine k_aload_n (pc := 58) C dX7_wear_58 rfl ?_
        refine k_getR (pc := 59) (r := some (8, 10, 0)) C fl_X7_32 k_in7 rfl rfl rfl dX7_wear_59 ?_
        refine k_iload_n (pc := 62) C dX7_wear_62 rfl ?_
        refine k_ialdX (pc := 63) (j := cz.toNatClampNeg) C rfl (by decide +kernel) rfl (by first | assumption | exact k_vin (N := 6) (n := 6) (by assumption) (by assumption) (by decide)) dX7_wear_63 ?_
        refine k_istore_3 (pc := 64) C dX7_wear_64 rfl ?_
        refine k_aload_n (pc := 65) C dX7_wear_65 rfl ?_
        refine k_aload_n (pc := 66) C dX7_wear_66 rfl ?_
        refine k_getR (pc := 67) (r := some (8, 35, 0)) C fl_X7_93 k_in7 rfl rfl rfl dX7_wear_67 ?_
        refine k_iconst (pc := 70) (v := 1) C dX7_wear_70 (by decide) ?_
        refine k_callv2 (pc := 71) C cv_X7_213 (ct_X7_all_I (by decide +kernel) rfl) k_in7 rfl (by decide) rfl (Nat.le_of_ble_eq_true rfl) dX7_wear_71 ?_
        refine k_iload_n (pc := 74) C dX7_wear_74 rfl ?_
        exact k_iret (pc := 75) C rfl  (k_fIm (by unfold f_X7_wear; rw [if_neg c5, if_neg c22]; try rfl)) dX7_wear_75
      · skip
        try dsimp only at hk
        have hmj : k_mo nC nB ((f_X7_weL (f_X7_allO mi 35) nC nB j)) := mo_weL (mo_allO hm (t := 35) (by decide)) j
        refine k_iload_n (pc := 43) C dX7_wear_43 rfl ?_
        refine k_iload_n (pc := 44) C dX7_wear_44 rfl ?_
        refine k_icmp_geF (pc := 45) C 58 dX7_wear_45 (by decide) (k_ngeN (isFrom_nn (by assumption) (by decide)) hj) ?_
        refine k_aload_n (pc := 48) C dX7_wear_48 rfl ?_
        refine k_callv0 (pc := 49) C cv_X7_242 (ct_X7_passes hmj) k_in7 rfl (by decide) rfl (Nat.le_of_ble_eq_true rfl) dX7_wear_49 ?_
        refine k_iinc_3 (pc := 52) (v := nI (j + 1)) C dX7_wear_52 (k_inc j) rfl ?_
        refine k_goto (pc := 55) C 43 dX7_wear_55 (by decide) ?_
        exact k_cast rfl (by rw [f_X7_weL_s]) rfl hk
    · skip
      refine k_aload_n (pc := 25) C dX7_wear_25 rfl ?_
      refine k_bipush (pc := 26) (v := (-6)) C dX7_wear_26 (by decide) ?_
      refine k_call1 (pc := 28) C cv_X7_139 (ct_X7_no (k_vd (by decide))) k_in7 rfl (by decide) rfl (Nat.le_of_ble_eq_true rfl) dX7_wear_28 ?_
      exact k_iret (pc := 31) C rfl  (k_fIm (by unfold f_X7_wear; rw [if_neg c5, if_pos c22]; try rfl)) dX7_wear_31
  · skip
    refine k_aload_n (pc := 8) C dX7_wear_8 rfl ?_
    refine k_iconst (pc := 9) (v := (-1)) C dX7_wear_9 (by decide) ?_
    refine k_call1 (pc := 10) C cv_X7_139 (ct_X7_no (k_vd (by decide))) k_in7 rfl (by decide) rfl (Nat.le_of_ble_eq_true rfl) dX7_wear_10 ?_
    exact k_iret (pc := 13) C rfl  (k_fIm (by unfold f_X7_wear; rw [if_pos c5]; try rfl)) dX7_wear_13
def f_X7_unL (mi : MemI) (nC : Nat) (nB : Nat) : Nat → Int32 × Int32 × MemI
  | 0 => (0, (-1), mi)
  | j + 1 =>
    if ((f_X7_passes ((f_X7_unL mi nC nB j).2.2) nC nB) (7, 0, 0) 42) ≤ 0 then (((f_X7_unL mi nC nB j).1) + ((f_X7_passes ((f_X7_unL mi nC nB j).2.2) nC nB) (7, 0, 0) 42), ((f_X7_unL mi nC nB j).2.1), f_X7_passes ((f_X7_unL mi nC nB j).2.2) nC nB)
    else if ((f_X7_unL mi nC nB j).2.1) = (-1) then (((f_X7_unL mi nC nB j).1) + ((f_X7_passes ((f_X7_unL mi nC nB j).2.2) nC nB) (7, 0, 0) 42), nI (j + 1), f_X7_passes ((f_X7_unL mi nC nB j).2.2) nC nB)
      else (((f_X7_unL mi nC nB j).1) + ((f_X7_passes ((f_X7_unL mi nC nB j).2.2) nC nB) (7, 0, 0) 42), ((f_X7_unL mi nC nB j).2.1), f_X7_passes ((f_X7_unL mi nC nB j).2.2) nC nB)
theorem f_X7_unL_s (mi : MemI) (nC : Nat) (nB : Nat) (j : Nat) : f_X7_unL mi nC nB (j + 1) =
    if ((f_X7_passes ((f_X7_unL mi nC nB j).2.2) nC nB) (7, 0, 0) 42) ≤ 0 then (((f_X7_unL mi nC nB j).1) + ((f_X7_passes ((f_X7_unL mi nC nB j).2.2) nC nB) (7, 0, 0) 42), ((f_X7_unL mi nC nB j).2.1), f_X7_passes ((f_X7_unL mi nC nB j).2.2) nC nB)
    else if ((f_X7_unL mi nC nB j).2.1) = (-1) then (((f_X7_unL mi nC nB j).1) + ((f_X7_passes ((f_X7_unL mi nC nB j).2.2) nC nB) (7, 0, 0) 42), nI (j + 1), f_X7_passes ((f_X7_unL mi nC nB j).2.2) nC nB)
      else (((f_X7_unL mi nC nB j).1) + ((f_X7_passes ((f_X7_unL mi nC nB j).2.2) nC nB) (7, 0, 0) 42), ((f_X7_unL mi nC nB j).2.1), f_X7_passes ((f_X7_unL mi nC nB j).2.2) nC nB) := rfl
theorem mo_unL {nC nB : Nat} {mi : MemI}  (h : k_mo nC nB mi) : ∀ j, k_mo nC nB ((f_X7_unL mi nC nB j).2.2) := by
  intro j
  induction j with
  | zero => exact h
  | succ j ih =>
    rw [f_X7_unL_s]
    repeat' split
    all_goals exact mo_passes ih
def f_X7_unkept (mi : MemI) (n : Int32) (w : Int32) (nC : Nat) (nB : Nat) : Int32 × MemI :=
  if w < 0 then ((f_X7_noTen mi (-5)).1, (f_X7_noTen mi (-5)).2)
  else if w ≤ 1 then if (f_X7_isFrom n 0 40) = 0 then ((f_X7_noTen mi (-6)).1, (f_X7_noTen mi (-6)).2)
      else if w = 0 then (((f_X7_unL (f_X7_allO mi 35) nC nB n.toNatClampNeg).1), f_X7_allI ((f_X7_unL (f_X7_allO mi 35) nC nB n.toNatClampNeg).2.2) 35)
        else (((f_X7_unL (f_X7_allO mi 35) nC nB n.toNatClampNeg).2.1), f_X7_allI ((f_X7_unL (f_X7_allO mi 35) nC nB n.toNatClampNeg).2.2) 35)
    else ((f_X7_noTen mi (-5)).1, (f_X7_noTen mi (-5)).2)
set_option maxRecDepth 100000 in
set_option maxHeartbeats 4000000 in
theorem ct_X7_unkept {mi : MemI} {ml : MemL} {n : Int32} {w : Int32} {nC : Nat} {nB : Nat} (hm : k_mo nC nB mi) : k_Ct k_KS k_R0 Mt_X7_unkept 4 [vR (7, 0, 0), vI n, vI w] mi ml (k_rt (some (vI (f_X7_unkept mi n w nC nB).1)) (f_X7_unkept mi n w nC nB).2 ml) := by
  refine k_ofV (L0 := [vR (7, 0, 0), vI n, vI w, vU, vU, vU]) (by decide +kernel) (Nat.le_of_ble_eq_true rfl) rfl rfl ?_
  intro p l e s m args below meth c D cy ad bs C
  have hC := hm.1
  have h6 := hm.2.1
  have hB := hm.2.2.1
  have h6b := hm.2.2.2.1
  refine k_iload_n (pc := 0) C dX7_unkept_0 rfl ?_
  refine k_if_lt (pc := 1) C 9 dX7_unkept_1 (by decide) (fun c1 => ?_) (fun c1 => ?_)
  · skip
    refine k_aload_n (pc := 9) C dX7_unkept_9 rfl ?_
    refine k_bipush (pc := 10) (v := (-5)) C dX7_unkept_10 (by decide) ?_
    refine k_call1 (pc := 12) C cv_X7_164 (ct_X7_noTen (k_vd (by decide))) k_in7 rfl (by decide) rfl (Nat.le_of_ble_eq_true rfl) dX7_unkept_12 ?_
    exact k_iret (pc := 15) C rfl  (k_fIm (by unfold f_X7_unkept; rw [if_pos c1]; try rfl)) dX7_unkept_15
  · skip
    refine k_iload_n (pc := 4) C dX7_unkept_4 rfl ?_
    refine k_iconst (pc := 5) (v := 1) C dX7_unkept_5 (by decide) ?_
    refine k_icmp_le (pc := 6) C 16 dX7_unkept_6 (by decide) (fun c6 => ?_) (fun c6 => ?_)
    · skip
      refine k_aload_n (pc := 16) C dX7_unkept_16 rfl ?_
      refine k_iload_n (pc := 17) C dX7_unkept_17 rfl ?_
      refine k_iconst (pc := 18) (v := 0) C dX7_unkept_18 (by decide) ?_
      refine k_bipush (pc := 19) (v := 40) C dX7_unkept_19 (by decide) ?_
      refine k_call3 (pc := 21) C cv_X7_149 ct_X7_isFrom k_in7 rfl (by decide) rfl (Nat.le_of_ble_eq_true rfl) dX7_unkept_21 ?_
      refine k_if_ne (pc := 24) C 34 dX7_unkept_24 (by decide) (fun c24 => ?_) (fun c24 => ?_)
      · skip
        refine k_iconst (pc := 34) (v := 0) C dX7_unkept_34 (by decide) ?_
        refine k_istore_3 (pc := 35) C dX7_unkept_35 rfl ?_
        refine k_iconst (pc := 36) (v := (-1)) C dX7_unkept_36 (by decide) ?_
        refine k_istore_4 (pc := 37) C dX7_unkept_37 rfl ?_
        refine k_aload_n (pc := 39) C dX7_unkept_39 rfl ?_
        refine k_aload_n (pc := 40) C dX7_unkept_40 rfl ?_
        refine k_getR (pc := 41) (r := some (8, 35, 0)) C fl_X7_93 k_in7 rfl rfl rfl dX7_unkept_41 ?_
        refine k_iconst (pc := 44) (v := 0) C dX7_unkept_44 (by decide) ?_
        refine k_callv2 (pc := 45) C cv_X7_213 (ct_X7_all_O (by decide +kernel) rfl) k_in7 rfl (by decide) rfl (Nat.le_of_ble_eq_true rfl) dX7_unkept_45 ?_
        refine k_iconst (pc := 48) (v := 1) C dX7_unkept_48 (by decide) ?_
        refine k_istore_5 (pc := 49) C dX7_unkept_49 rfl ?_
        refine k_cast (L' := [vR (7, 0, 0), vI n, vI w, vI ((f_X7_unL (f_X7_allO mi 35) nC nB 0).1), vI ((f_X7_unL (f_X7_allO mi 35) nC nB 0).2.1), vI (nI (0 + 1))]) (mi' := (f_X7_unL (f_X7_allO mi 35) nC nB 0).2.2) (ml' := ml) rfl rfl rfl ?_
        refine k_down (P := fun j => k_V p l e (k_rm 4) s m args below meth c D cy ad bs k_KS k_R0 0 0 (k_End below D cy ad bs k_KS k_R0 (k_rt (some (vI (f_X7_unkept mi n w nC nB).1)) (f_X7_unkept mi n w nC nB).2 ml) args s) ((f_X7_unL (f_X7_allO mi 35) nC nB j).2.2) ml 51 [vR (7, 0, 0), vI n, vI w, vI ((f_X7_unL (f_X7_allO mi 35) nC nB j).1), vI ((f_X7_unL (f_X7_allO mi 35) nC nB j).2.1), vI (nI (j + 1))] []) n.toNatClampNeg ?_ (fun j hj hk => ?_)
        · skip
          refine k_iload (pc := 51) C dX7_unkept_51 rfl ?_
          refine k_iload_n (pc := 53) C dX7_unkept_53 rfl ?_
          refine k_icmp_gtT (pc := 54) C 91 dX7_unkept_54 (by decide) (k_ltN (isFrom_nn (by assumption) (by decide)) (k_le40 (isFrom_le (by assumption)))) ?_
          refine k_aload_n (pc := 91) C dX7_unkept_91 rfl ?_
          refine k_aload_n (pc := 92) C dX7_unkept_92 rfl ?_
          refine k_getR (pc := 93) (r := some (8, 35, 0)) C fl_X7_93 k_in7 rfl rfl rfl dX7_unkept_93 ?_
          refine k_iconst (pc := 96) (v := 1) C dX7_unkept_96 (by decide) ?_
          refine k_callv2 (pc := 97) C cv_X7_213 (ct_X7_all_I (by decide +kernel) rfl) k_in7 rfl (by decide) rfl (Nat.le_of_ble_eq_true rfl) dX7_unkept_97 ?_
          refine k_iload_n (pc := 100) C dX7_unkept_100 rfl ?_
          refine k_if_ne (pc := 101) C 108 dX7_unkept_101 (by decide) (fun c101 => ?_) (fun c101 => ?_)
          · skip
            refine k_iload (pc := 108) C dX7_unkept_108 rfl ?_
            exact k_iret (pc := 110) C rfl  (k_fIm (by unfold f_X7_unkept; rw [if_neg c1, if_pos c6, if_neg c24, if_neg c101]; try rfl)) dX7_unkept_110
          · skip
            refine k_iload_n (pc := 104) C dX7_unkept_104 rfl ?_
            refine k_goto (pc := 105) C 110 dX7_unkept_105 (by decide) ?_
            exact k_iret (pc := 110) C rfl  (k_fIm (by unfold f_X7_unkept; rw [if_neg c1, if_pos c6, if_neg c24, if_pos c101]; try rfl)) dX7_unkept_110
        · skip
          try dsimp only at hk
          have hmj : k_mo nC nB ((f_X7_unL (f_X7_allO mi 35) nC nB j).2.2) := mo_unL (mo_allO hm (t := 35) (by decide)) j
          refine k_iload (pc := 51) C dX7_unkept_51 rfl ?_
          refine k_iload_n (pc := 53) C dX7_unkept_53 rfl ?_
          refine k_icmp_gtF (pc := 54) C 91 dX7_unkept_54 (by decide) (k_nltN (isFrom_nn (by assumption) (by decide)) hj) ?_
          refine k_aload_n (pc := 57) C dX7_unkept_57 rfl ?_
          refine k_callv0 (pc := 58) C cv_X7_242 (ct_X7_passes hmj) k_in7 rfl (by decide) rfl (Nat.le_of_ble_eq_true rfl) dX7_unkept_58 ?_
          refine k_iload_n (pc := 61) C dX7_unkept_61 rfl ?_
          refine k_aload_n (pc := 62) C dX7_unkept_62 rfl ?_
          refine k_getI (pc := 63) C fl_X7_227 k_in7 rfl rfl dX7_unkept_63 ?_
          refine k_iadd (pc := 66) C dX7_unkept_66 ?_
          refine k_istore_3 (pc := 67) C dX7_unkept_67 rfl ?_
          refine k_aload_n (pc := 68) C dX7_unkept_68 rfl ?_
          refine k_getI (pc := 69) C fl_X7_227 k_in7 rfl rfl dX7_unkept_69 ?_
          refine k_if_le (pc := 72) C 85 dX7_unkept_72 (by decide) (fun c72 => ?_) (fun c72 => ?_)
          · skip
            refine k_iinc_5 (pc := 85) (v := nI (j + 1 + 1)) C dX7_unkept_85 (k_inc (j + 1)) rfl ?_
            refine k_goto (pc := 88) C 51 dX7_unkept_88 (by decide) ?_
            exact k_cast (by rw [f_X7_unL_s, if_pos c72]) (by rw [f_X7_unL_s, if_pos c72]) rfl hk
          · skip
            refine k_iload (pc := 75) C dX7_unkept_75 rfl ?_
            refine k_iconst (pc := 77) (v := (-1)) C dX7_unkept_77 (by decide) ?_
            refine k_icmp_ne (pc := 78) C 85 dX7_unkept_78 (by decide) (fun c78 => ?_) (fun c78 => ?_)
            · skip
              refine k_iinc_5 (pc := 85) (v := nI (j + 1 + 1)) C dX7_unkept_85 (k_inc (j + 1)) rfl ?_
              refine k_goto (pc := 88) C 51 dX7_unkept_88 (by decide) ?_
              exact k_cast (by rw [f_X7_unL_s, if_neg c72, if_neg c78]) (by rw [f_X7_unL_s, if_neg c72, if_neg c78]) rfl hk
            · skip
              refine k_iload (pc := 81) C dX7_unkept_81 rfl ?_
              refine k_istore_4 (pc := 83) C dX7_unkept_83 rfl ?_
              refine k_iinc_5 (pc := 85) (v := nI (j + 1 + 1)) C dX7_unkept_85 (k_inc (j + 1)) rfl ?_
              refine k_goto (pc := 88) C 51 dX7_unkept_88 (by decide) ?_
              exact k_cast (by rw [f_X7_unL_s, if_neg c72, if_pos c78]) (by rw [f_X7_unL_s, if_neg c72, if_pos c78]) rfl hk
      · skip
        refine k_aload_n (pc := 27) C dX7_unkept_27 rfl ?_
        refine k_bipush (pc := 28) (v := (-6)) C dX7_unkept_28 (by decide) ?_
        refine k_call1 (pc := 30) C cv_X7_164 (ct_X7_noTen (k_vd (by decide))) k_in7 rfl (by decide) rfl (Nat.le_of_ble_eq_true rfl) dX7_unkept_30 ?_
        exact k_iret (pc := 33) C rfl  (k_fIm (by unfold f_X7_unkept; rw [if_neg c1, if_pos c6, if_pos c24]; try rfl)) dX7_unkept_33
    · skip
      refine k_aload_n (pc := 9) C dX7_unkept_9 rfl ?_
      refine k_bipush (pc := 10) (v := (-5)) C dX7_unkept_10 (by decide) ?_
      refine k_call1 (pc := 12) C cv_X7_164 (ct_X7_noTen (k_vd (by decide))) k_in7 rfl (by decide) rfl (Nat.le_of_ble_eq_true rfl) dX7_unkept_12 ?_
      exact k_iret (pc := 15) C rfl  (k_fIm (by unfold f_X7_unkept; rw [if_neg c1, if_neg c6]; try rfl)) dX7_unkept_15
def f_X7_shL (mi : MemI) (cz : Int32) (nC : Nat) (nB : Nat) : Nat → Int32 × Int32 × MemI
  | 0 => ((-1), (-1), mi)
  | j + 1 =>
    if ((f_X7_goes (k_ui ((f_X7_shL mi cz nC nB j).2.2) (8, 9, 0) cz.toNatClampNeg (nI j)) nC nB) (8, 38, 0) cz.toNatClampNeg) = 0 then (nI j, ((f_X7_shL mi cz nC nB j).2.1), f_X7_goes (k_ui ((f_X7_shL mi cz nC nB j).2.2) (8, 9, 0) cz.toNatClampNeg (nI j)) nC nB)
    else if ((f_X7_shL mi cz nC nB j).2.1) = (-1) then (((f_X7_shL mi cz nC nB j).1), nI j, f_X7_goes (k_ui ((f_X7_shL mi cz nC nB j).2.2) (8, 9, 0) cz.toNatClampNeg (nI j)) nC nB)
      else (((f_X7_shL mi cz nC nB j).1), ((f_X7_shL mi cz nC nB j).2.1), f_X7_goes (k_ui ((f_X7_shL mi cz nC nB j).2.2) (8, 9, 0) cz.toNatClampNeg (nI j)) nC nB)
theorem f_X7_shL_s (mi : MemI) (cz : Int32) (nC : Nat) (nB : Nat) (j : Nat) : f_X7_shL mi cz nC nB (j + 1) =
    if ((f_X7_goes (k_ui ((f_X7_shL mi cz nC nB j).2.2) (8, 9, 0) cz.toNatClampNeg (nI j)) nC nB) (8, 38, 0) cz.toNatClampNeg) = 0 then (nI j, ((f_X7_shL mi cz nC nB j).2.1), f_X7_goes (k_ui ((f_X7_shL mi cz nC nB j).2.2) (8, 9, 0) cz.toNatClampNeg (nI j)) nC nB)
    else if ((f_X7_shL mi cz nC nB j).2.1) = (-1) then (((f_X7_shL mi cz nC nB j).1), nI j, f_X7_goes (k_ui ((f_X7_shL mi cz nC nB j).2.2) (8, 9, 0) cz.toNatClampNeg (nI j)) nC nB)
      else (((f_X7_shL mi cz nC nB j).1), ((f_X7_shL mi cz nC nB j).2.1), f_X7_goes (k_ui ((f_X7_shL mi cz nC nB j).2.2) (8, 9, 0) cz.toNatClampNeg (nI j)) nC nB) := rfl
theorem mo_shL {nC nB : Nat} {mi : MemI} {cz : Int32} (h : k_mo nC nB mi) : ∀ j, k_mo nC nB ((f_X7_shL mi cz nC nB j).2.2) := by
  intro j
  induction j with
  | zero => exact h
  | succ j ih =>
    rw [f_X7_shL_s]
    repeat' split
    all_goals exact mo_goes (k_mo_ui ih (by simp) (by simp))
def f_X7_shun (mi : MemI) (cz : Int32) (w : Int32) (nC : Nat) (nB : Nat) : Int32 × MemI :=
  if (f_X7_isCitizen mi cz) = 0 then ((f_X7_noTen mi (-1)).1, (f_X7_noTen mi (-1)).2)
  else if (mi (8, 12, 0) cz.toNatClampNeg) = 1 then ((f_X7_noTen mi (-1)).1, (f_X7_noTen mi (-1)).2)
    else if w < 0 then ((f_X7_noTen mi (-5)).1, (f_X7_noTen mi (-5)).2)
      else if w ≤ 1 then if w = 0 then (((f_X7_shL mi cz nC nB 21).1), k_ui ((f_X7_shL mi cz nC nB 21).2.2) (8, 9, 0) cz.toNatClampNeg (mi (8, 9, 0) cz.toNatClampNeg))
          else (((f_X7_shL mi cz nC nB 21).2.1), k_ui ((f_X7_shL mi cz nC nB 21).2.2) (8, 9, 0) cz.toNatClampNeg (mi (8, 9, 0) cz.toNatClampNeg))
        else ((f_X7_noTen mi (-5)).1, (f_X7_noTen mi (-5)).2)
set_option maxRecDepth 100000 in
set_option maxHeartbeats 4000000 in
theorem ct_X7_shun {mi : MemI} {ml : MemL} {cz : Int32} {w : Int32} {nC : Nat} {nB : Nat} (hm : k_mo nC nB mi) : k_Ct k_KS k_R0 Mt_X7_shun 3 [vR (7, 0, 0), vI cz, vI w] mi ml (k_rt (some (vI (f_X7_shun mi cz w nC nB).1)) (f_X7_shun mi cz w nC nB).2 ml) := by
  refine k_ofV (L0 := [vR (7, 0, 0), vI cz, vI w, vU, vU, vU, vU]) (by decide +kernel) (Nat.le_of_ble_eq_true rfl) rfl rfl ?_
  intro p l e s m args below meth c D cy ad bs C
  have hC := hm.1
  have h6 := hm.2.1
  have hB := hm.2.2.1
  have h6b := hm.2.2.2.1
  refine k_aload_n (pc := 0) C dX7_shun_0 rfl ?_
  refine k_iload_n (pc := 1) C dX7_shun_1 rfl ?_
  refine k_call1 (pc := 2) C cv_X7_143 ct_X7_isCitizen k_in7 rfl (by decide) rfl (Nat.le_of_ble_eq_true rfl) dX7_shun_2 ?_
  refine k_if_eq (pc := 5) C 18 dX7_shun_5 (by decide) (fun c5 => ?_) (fun c5 => ?_)
  · skip
    refine k_aload_n (pc := 18) C dX7_shun_18 rfl ?_
    refine k_iconst (pc := 19) (v := (-1)) C dX7_shun_19 (by decide) ?_
    refine k_call1 (pc := 20) C cv_X7_164 (ct_X7_noTen (k_vd (by decide))) k_in7 rfl (by decide) rfl (Nat.le_of_ble_eq_true rfl) dX7_shun_20 ?_
    exact k_iret (pc := 23) C rfl  (k_fIm (by unfold f_X7_shun; rw [if_pos c5]; try rfl)) dX7_shun_23
  · skip
    have qc5 := vp_mono (isCitizen_in hC h6 c5) h6
    refine k_aload_n (pc := 8) C dX7_shun_8 rfl ?_
    refine k_getR (pc := 9) (r := some (8, 12, 0)) C fl_X7_38 k_in7 rfl rfl rfl dX7_shun_9 ?_
    refine k_iload_n (pc := 12) C dX7_shun_12 rfl ?_
    refine k_ialdX (pc := 13) (j := cz.toNatClampNeg) C rfl (by decide +kernel) rfl (by first | assumption | exact k_vin (N := 6) (n := 6) (by assumption) (by assumption) (by decide)) dX7_shun_13 ?_
    refine k_iconst (pc := 14) (v := 1) C dX7_shun_14 (by decide) ?_
    refine k_icmp_ne (pc := 15) C 24 dX7_shun_15 (by decide) (fun c15 => ?_) (fun c15 => ?_)
    · skip
      refine k_iload_n (pc := 24) C dX7_shun_24 rfl ?_
      refine k_if_lt (pc := 25) C 33 dX7_shun_25 (by decide) (fun c25 => ?_) (fun c25 => ?_)
      · skip
        refine k_aload_n (pc := 33) C dX7_shun_33 rfl ?_
        refine k_bipush (pc := 34) (v := (-5)) C dX7_shun_34 (by decide) ?_
        refine k_call1 (pc := 36) C cv_X7_164 (ct_X7_noTen (k_vd (by decide))) k_in7 rfl (by decide) rfl (Nat.le_of_ble_eq_true rfl) dX7_shun_36 ?_
        exact k_iret (pc := 39) C rfl  (k_fIm (by unfold f_X7_shun; rw [if_neg c5, if_neg c15, if_pos c25]; try rfl)) dX7_shun_39
      · skip
        refine k_iload_n (pc := 28) C dX7_shun_28 rfl ?_
        refine k_iconst (pc := 29) (v := 1) C dX7_shun_29 (by decide) ?_
        refine k_icmp_le (pc := 30) C 40 dX7_shun_30 (by decide) (fun c30 => ?_) (fun c30 => ?_)
        · skip
          refine k_aload_n (pc := 40) C dX7_shun_40 rfl ?_
          refine k_getR (pc := 41) (r := some (8, 9, 0)) C fl_X7_29 k_in7 rfl rfl rfl dX7_shun_41 ?_
          refine k_iload_n (pc := 44) C dX7_shun_44 rfl ?_
          refine k_ialdX (pc := 45) (j := cz.toNatClampNeg) C rfl (by decide +kernel) rfl (by first | assumption | exact k_vin (N := 6) (n := 6) (by assumption) (by assumption) (by decide)) dX7_shun_45 ?_
          refine k_istore_3 (pc := 46) C dX7_shun_46 rfl ?_
          refine k_iconst (pc := 47) (v := (-1)) C dX7_shun_47 (by decide) ?_
          refine k_istore_4 (pc := 48) C dX7_shun_48 rfl ?_
          refine k_iconst (pc := 50) (v := (-1)) C dX7_shun_50 (by decide) ?_
          refine k_istore_5 (pc := 51) C dX7_shun_51 rfl ?_
          refine k_iconst (pc := 53) (v := 0) C dX7_shun_53 (by decide) ?_
          refine k_istore_6 (pc := 54) C dX7_shun_54 rfl ?_
          refine k_cast (L' := [vR (7, 0, 0), vI cz, vI w, vI (mi (8, 9, 0) cz.toNatClampNeg), vI ((f_X7_shL mi cz nC nB 0).1), vI ((f_X7_shL mi cz nC nB 0).2.1), vI (nI 0)]) (mi' := (f_X7_shL mi cz nC nB 0).2.2) (ml' := ml) rfl rfl rfl ?_
          refine k_down (P := fun j => k_V p l e (k_rm 3) s m args below meth c D cy ad bs k_KS k_R0 0 0 (k_End below D cy ad bs k_KS k_R0 (k_rt (some (vI (f_X7_shun mi cz w nC nB).1)) (f_X7_shun mi cz w nC nB).2 ml) args s) ((f_X7_shL mi cz nC nB j).2.2) ml 56 [vR (7, 0, 0), vI cz, vI w, vI (mi (8, 9, 0) cz.toNatClampNeg), vI ((f_X7_shL mi cz nC nB j).1), vI ((f_X7_shL mi cz nC nB j).2.1), vI (nI j)] []) 21 ?_ (fun j hj hk => ?_)
          · skip
            refine k_iload (pc := 56) C dX7_shun_56 rfl ?_
            refine k_bipush (pc := 58) (v := 20) C dX7_shun_58 (by decide) ?_
            refine k_icmp_gtT (pc := 60) C 107 dX7_shun_60 (by decide) (by decide) ?_
            refine k_aload_n (pc := 107) C dX7_shun_107 rfl ?_
            refine k_getR (pc := 108) (r := some (8, 9, 0)) C fl_X7_29 k_in7 rfl rfl rfl dX7_shun_108 ?_
            refine k_iload_n (pc := 111) C dX7_shun_111 rfl ?_
            refine k_iload_n (pc := 112) C dX7_shun_112 rfl ?_
            refine k_iastX (pc := 113) (j := cz.toNatClampNeg) C rfl (by decide +kernel) rfl (by first | assumption | exact k_vin (N := 6) (n := 6) (by assumption) (by assumption) (by decide)) dX7_shun_113 ?_
            refine k_iload_n (pc := 114) C dX7_shun_114 rfl ?_
            refine k_if_ne (pc := 115) C 123 dX7_shun_115 (by decide) (fun c115 => ?_) (fun c115 => ?_)
            · skip
              refine k_iload (pc := 123) C dX7_shun_123 rfl ?_
              exact k_iret (pc := 125) C rfl  (k_fIm (by unfold f_X7_shun; rw [if_neg c5, if_neg c15, if_neg c25, if_pos c30, if_neg c115]; try rfl)) dX7_shun_125
            · skip
              refine k_iload (pc := 118) C dX7_shun_118 rfl ?_
              refine k_goto (pc := 120) C 125 dX7_shun_120 (by decide) ?_
              exact k_iret (pc := 125) C rfl  (k_fIm (by unfold f_X7_shun; rw [if_neg c5, if_neg c15, if_neg c25, if_pos c30, if_pos c115]; try rfl)) dX7_shun_125
          · skip
            try dsimp only at hk
            have hmj : k_mo nC nB ((f_X7_shL mi cz nC nB j).2.2) := mo_shL hm j
            refine k_iload (pc := 56) C dX7_shun_56 rfl ?_
            refine k_bipush (pc := 58) (v := 20) C dX7_shun_58 (by decide) ?_
            refine k_icmp_gtF (pc := 60) C 107 dX7_shun_60 (by decide) (nI_nlt (a := 20) (show j ≤ 20 by omega) (by omega)) ?_
            refine k_aload_n (pc := 63) C dX7_shun_63 rfl ?_
            refine k_getR (pc := 64) (r := some (8, 9, 0)) C fl_X7_29 k_in7 rfl rfl rfl dX7_shun_64 ?_
            refine k_iload_n (pc := 67) C dX7_shun_67 rfl ?_
            refine k_iload (pc := 68) C dX7_shun_68 rfl ?_
            refine k_iastX (pc := 70) (j := cz.toNatClampNeg) C rfl (by decide +kernel) rfl (by first | assumption | exact k_vin (N := 6) (n := 6) (by assumption) (by assumption) (by decide)) dX7_shun_70 ?_
            refine k_aload_n (pc := 71) C dX7_shun_71 rfl ?_
            refine k_callv0 (pc := 72) C cv_X7_236 (ct_X7_goes (k_mo_ui hmj (by simp) (by simp))) k_in7 rfl (by decide) rfl (Nat.le_of_ble_eq_true rfl) dX7_shun_72 ?_
            refine k_aload_n (pc := 75) C dX7_shun_75 rfl ?_
            refine k_getR (pc := 76) (r := some (8, 38, 0)) C fl_X7_102 k_in7 rfl rfl rfl dX7_shun_76 ?_
            refine k_iload_n (pc := 79) C dX7_shun_79 rfl ?_
            refine k_ialdX (pc := 80) (j := cz.toNatClampNeg) C rfl (by decide +kernel) rfl (by first | assumption | exact k_vin (N := 6) (n := 6) (by assumption) (by assumption) (by decide)) dX7_shun_80 ?_
            refine k_if_ne (pc := 81) C 91 dX7_shun_81 (by decide) (fun c81 => ?_) (fun c81 => ?_)
            · skip
              refine k_iload (pc := 91) C dX7_shun_91 rfl ?_
              refine k_iconst (pc := 93) (v := (-1)) C dX7_shun_93 (by decide) ?_
              refine k_icmp_ne (pc := 94) C 101 dX7_shun_94 (by decide) (fun c94 => ?_) (fun c94 => ?_)
              · skip
                refine k_iinc_6 (pc := 101) (v := nI (j + 1)) C dX7_shun_101 (k_inc j) rfl ?_
                refine k_goto (pc := 104) C 56 dX7_shun_104 (by decide) ?_
                exact k_cast (by rw [f_X7_shL_s, if_neg c81, if_neg c94]) (by rw [f_X7_shL_s, if_neg c81, if_neg c94]) rfl hk
              · skip
                refine k_iload (pc := 97) C dX7_shun_97 rfl ?_
                refine k_istore_5 (pc := 99) C dX7_shun_99 rfl ?_
                refine k_iinc_6 (pc := 101) (v := nI (j + 1)) C dX7_shun_101 (k_inc j) rfl ?_
                refine k_goto (pc := 104) C 56 dX7_shun_104 (by decide) ?_
                exact k_cast (by rw [f_X7_shL_s, if_neg c81, if_pos c94]) (by rw [f_X7_shL_s, if_neg c81, if_pos c94]) rfl hk
            · skip
              refine k_iload (pc := 84) C dX7_shun_84 rfl ?_
              refine k_istore_4 (pc := 86) C dX7_shun_86 rfl ?_
              refine k_goto (pc := 88) C 101 dX7_shun_88 (by decide) ?_
              refine k_iinc_6 (pc := 101) (v := nI (j + 1)) C dX7_shun_101 (k_inc j) rfl ?_
              refine k_goto (pc := 104) C 56 dX7_shun_104 (by decide) ?_
              exact k_cast (by rw [f_X7_shL_s, if_pos c81]) (by rw [f_X7_shL_s, if_pos c81]) rfl hk
        · skip
          refine k_aload_n (pc := 33) C dX7_shun_33 rfl ?_
          refine k_bipush (pc := 34) (v := (-5)) C dX7_shun_34 (by decide) ?_
          refine k_call1 (pc := 36) C cv_X7_164 (ct_X7_noTen (k_vd (by decide))) k_in7 rfl (by decide) rfl (Nat.le_of_ble_eq_true rfl) dX7_shun_36 ?_
          exact k_iret (pc := 39) C rfl  (k_fIm (by unfold f_X7_shun; rw [if_neg c5, if_neg c15, if_neg c25, if_neg c30]; try rfl)) dX7_shun_39
    · skip
      refine k_aload_n (pc := 18) C dX7_shun_18 rfl ?_
      refine k_iconst (pc := 19) (v := (-1)) C dX7_shun_19 (by decide) ?_
      refine k_call1 (pc := 20) C cv_X7_164 (ct_X7_noTen (k_vd (by decide))) k_in7 rfl (by decide) rfl (Nat.le_of_ble_eq_true rfl) dX7_shun_20 ?_
      exact k_iret (pc := 23) C rfl  (k_fIm (by unfold f_X7_shun; rw [if_neg c5, if_pos c15]; try rfl)) dX7_shun_23
def f_X7_ruL (mi : MemI) (bg : Int32) (cz : Int32) (nC : Nat) (nB : Nat) : Nat → Int32 × MemI
  | 0 => (0, mi)
  | j + 1 =>
    if ((f_X7_goes (k_ui ((f_X7_ruL mi bg cz nC nB j).2) (8, 14, 0) bg.toNatClampNeg (nI j)) nC nB) (8, 37, 0) bg.toNatClampNeg) = cz then (((f_X7_ruL mi bg cz nC nB j).1) + (1 <<< ((nI j) &&& 31)), f_X7_goes (k_ui ((f_X7_ruL mi bg cz nC nB j).2) (8, 14, 0) bg.toNatClampNeg (nI j)) nC nB)
    else (((f_X7_ruL mi bg cz nC nB j).1), f_X7_goes (k_ui ((f_X7_ruL mi bg cz nC nB j).2) (8, 14, 0) bg.toNatClampNeg (nI j)) nC nB)
theorem f_X7_ruL_s (mi : MemI) (bg : Int32) (cz : Int32) (nC : Nat) (nB : Nat) (j : Nat) : f_X7_ruL mi bg cz nC nB (j + 1) =
    if ((f_X7_goes (k_ui ((f_X7_ruL mi bg cz nC nB j).2) (8, 14, 0) bg.toNatClampNeg (nI j)) nC nB) (8, 37, 0) bg.toNatClampNeg) = cz then (((f_X7_ruL mi bg cz nC nB j).1) + (1 <<< ((nI j) &&& 31)), f_X7_goes (k_ui ((f_X7_ruL mi bg cz nC nB j).2) (8, 14, 0) bg.toNatClampNeg (nI j)) nC nB)
    else (((f_X7_ruL mi bg cz nC nB j).1), f_X7_goes (k_ui ((f_X7_ruL mi bg cz nC nB j).2) (8, 14, 0) bg.toNatClampNeg (nI j)) nC nB) := rfl
theorem mo_ruL {nC nB : Nat} {mi : MemI} {bg cz : Int32} (h : k_mo nC nB mi) : ∀ j, k_mo nC nB ((f_X7_ruL mi bg cz nC nB j).2) := by
  intro j
  induction j with
  | zero => exact h
  | succ j ih =>
    rw [f_X7_ruL_s]
    repeat' split
    all_goals exact mo_goes (k_mo_ui ih (by simp) (by simp))
def f_X7_rules (mi : MemI) (bg : Int32) (cz : Int32) (nC : Nat) (nB : Nat) : Int32 × MemI :=
  if (f_X7_isBeggar mi bg) = 0 then ((f_X7_no mi (-1)).1, (f_X7_no mi (-1)).2)
  else if (f_X7_isCitizen mi cz) = 0 then ((f_X7_no mi (-1)).1, (f_X7_no mi (-1)).2)
    else if (mi (8, 17, 0) bg.toNatClampNeg) = 1 then ((f_X7_no mi (-6)).1, (f_X7_no mi (-6)).2)
      else (((f_X7_ruL mi bg cz nC nB 5).1), k_ui ((f_X7_ruL mi bg cz nC nB 5).2) (8, 14, 0) bg.toNatClampNeg (mi (8, 14, 0) bg.toNatClampNeg))
set_option maxRecDepth 100000 in
set_option maxHeartbeats 4000000 in
theorem ct_X7_rules {mi : MemI} {ml : MemL} {bg : Int32} {cz : Int32} {nC : Nat} {nB : Nat} (hm : k_mo nC nB mi) : k_Ct k_KS k_R0 Mt_X7_rules 3 [vR (7, 0, 0), vI bg, vI cz] mi ml (k_rt (some (vI (f_X7_rules mi bg cz nC nB).1)) (f_X7_rules mi bg cz nC nB).2 ml) := by
  refine k_ofV (L0 := [vR (7, 0, 0), vI bg, vI cz, vU, vU, vU]) (by decide +kernel) (Nat.le_of_ble_eq_true rfl) rfl rfl ?_
  intro p l e s m args below meth c D cy ad bs C
  have hC := hm.1
  have h6 := hm.2.1
  have hB := hm.2.2.1
  have h6b := hm.2.2.2.1
  refine k_aload_n (pc := 0) C dX7_rules_0 rfl ?_
  refine k_iload_n (pc := 1) C dX7_rules_1 rfl ?_
  refine k_call1 (pc := 2) C cv_X7_161 ct_X7_isBeggar k_in7 rfl (by decide) rfl (Nat.le_of_ble_eq_true rfl) dX7_rules_2 ?_
  refine k_if_eq (pc := 5) C 16 dX7_rules_5 (by decide) (fun c5 => ?_) (fun c5 => ?_)
  · skip
    refine k_aload_n (pc := 16) C dX7_rules_16 rfl ?_
    refine k_iconst (pc := 17) (v := (-1)) C dX7_rules_17 (by decide) ?_
    refine k_call1 (pc := 18) C cv_X7_139 (ct_X7_no (k_vd (by decide))) k_in7 rfl (by decide) rfl (Nat.le_of_ble_eq_true rfl) dX7_rules_18 ?_
    exact k_iret (pc := 21) C rfl  (k_fIm (by unfold f_X7_rules; rw [if_pos c5]; try rfl)) dX7_rules_21
  · skip
    have qc5 := vp_mono (isBeggar_in hB h6b c5) h6b
    refine k_aload_n (pc := 8) C dX7_rules_8 rfl ?_
    refine k_iload_n (pc := 9) C dX7_rules_9 rfl ?_
    refine k_call1 (pc := 10) C cv_X7_143 ct_X7_isCitizen k_in7 rfl (by decide) rfl (Nat.le_of_ble_eq_true rfl) dX7_rules_10 ?_
    refine k_if_ne (pc := 13) C 22 dX7_rules_13 (by decide) (fun c13 => ?_) (fun c13 => ?_)
    · skip
      have qc13 := vp_mono (isCitizen_in hC h6 c13) h6
      refine k_aload_n (pc := 22) C dX7_rules_22 rfl ?_
      refine k_getR (pc := 23) (r := some (8, 17, 0)) C fl_X7_53 k_in7 rfl rfl rfl dX7_rules_23 ?_
      refine k_iload_n (pc := 26) C dX7_rules_26 rfl ?_
      refine k_ialdX (pc := 27) (j := bg.toNatClampNeg) C rfl (by decide +kernel) rfl (by first | assumption | exact k_vin (N := 6) (n := 6) (by assumption) (by assumption) (by decide)) dX7_rules_27 ?_
      refine k_iconst (pc := 28) (v := 1) C dX7_rules_28 (by decide) ?_
      refine k_icmp_ne (pc := 29) C 39 dX7_rules_29 (by decide) (fun c29 => ?_) (fun c29 => ?_)
      · skip
        refine k_aload_n (pc := 39) C dX7_rules_39 rfl ?_
        refine k_getR (pc := 40) (r := some (8, 14, 0)) C fl_X7_44 k_in7 rfl rfl rfl dX7_rules_40 ?_
        refine k_iload_n (pc := 43) C dX7_rules_43 rfl ?_
        refine k_ialdX (pc := 44) (j := bg.toNatClampNeg) C rfl (by decide +kernel) rfl (by first | assumption | exact k_vin (N := 6) (n := 6) (by assumption) (by assumption) (by decide)) dX7_rules_44 ?_
        refine k_istore_3 (pc := 45) C dX7_rules_45 rfl ?_
        refine k_iconst (pc := 46) (v := 0) C dX7_rules_46 (by decide) ?_
        refine k_istore_4 (pc := 47) C dX7_rules_47 rfl ?_
        refine k_iconst (pc := 49) (v := 0) C dX7_rules_49 (by decide) ?_
        refine k_istore_5 (pc := 50) C dX7_rules_50 rfl ?_
        refine k_cast (L' := [vR (7, 0, 0), vI bg, vI cz, vI (mi (8, 14, 0) bg.toNatClampNeg), vI ((f_X7_ruL mi bg cz nC nB 0).1), vI (nI 0)]) (mi' := (f_X7_ruL mi bg cz nC nB 0).2) (ml' := ml) rfl rfl rfl ?_
        refine k_down (P := fun j => k_V p l e (k_rm 3) s m args below meth c D cy ad bs k_KS k_R0 0 0 (k_End below D cy ad bs k_KS k_R0 (k_rt (some (vI (f_X7_rules mi bg cz nC nB).1)) (f_X7_rules mi bg cz nC nB).2 ml) args s) ((f_X7_ruL mi bg cz nC nB j).2) ml 52 [vR (7, 0, 0), vI bg, vI cz, vI (mi (8, 14, 0) bg.toNatClampNeg), vI ((f_X7_ruL mi bg cz nC nB j).1), vI (nI j)] []) 5 ?_ (fun j hj hk => ?_)
        · skip
          refine k_iload (pc := 52) C dX7_rules_52 rfl ?_
          refine k_iconst (pc := 54) (v := 4) C dX7_rules_54 (by decide) ?_
          refine k_icmp_gtT (pc := 55) C 95 dX7_rules_55 (by decide) (by decide) ?_
          refine k_aload_n (pc := 95) C dX7_rules_95 rfl ?_
          refine k_getR (pc := 96) (r := some (8, 14, 0)) C fl_X7_44 k_in7 rfl rfl rfl dX7_rules_96 ?_
          refine k_iload_n (pc := 99) C dX7_rules_99 rfl ?_
          refine k_iload_n (pc := 100) C dX7_rules_100 rfl ?_
          refine k_iastX (pc := 101) (j := bg.toNatClampNeg) C rfl (by decide +kernel) rfl (by first | assumption | exact k_vin (N := 6) (n := 6) (by assumption) (by assumption) (by decide)) dX7_rules_101 ?_
          refine k_iload (pc := 102) C dX7_rules_102 rfl ?_
          exact k_iret (pc := 104) C rfl  (k_fIm (by unfold f_X7_rules; rw [if_neg c5, if_neg c13, if_neg c29]; try rfl)) dX7_rules_104
        · skip
          try dsimp only at hk
          have hmj : k_mo nC nB ((f_X7_ruL mi bg cz nC nB j).2) := mo_ruL hm j
          refine k_iload (pc := 52) C dX7_rules_52 rfl ?_
          refine k_iconst (pc := 54) (v := 4) C dX7_rules_54 (by decide) ?_
          refine k_icmp_gtF (pc := 55) C 95 dX7_rules_55 (by decide) (nI_nlt (a := 4) (show j ≤ 4 by omega) (by omega)) ?_
          refine k_aload_n (pc := 58) C dX7_rules_58 rfl ?_
          refine k_getR (pc := 59) (r := some (8, 14, 0)) C fl_X7_44 k_in7 rfl rfl rfl dX7_rules_59 ?_
          refine k_iload_n (pc := 62) C dX7_rules_62 rfl ?_
          refine k_iload (pc := 63) C dX7_rules_63 rfl ?_
          refine k_iastX (pc := 65) (j := bg.toNatClampNeg) C rfl (by decide +kernel) rfl (by first | assumption | exact k_vin (N := 6) (n := 6) (by assumption) (by assumption) (by decide)) dX7_rules_65 ?_
          refine k_aload_n (pc := 66) C dX7_rules_66 rfl ?_
          refine k_callv0 (pc := 67) C cv_X7_236 (ct_X7_goes (k_mo_ui hmj (by simp) (by simp))) k_in7 rfl (by decide) rfl (Nat.le_of_ble_eq_true rfl) dX7_rules_67 ?_
          refine k_aload_n (pc := 70) C dX7_rules_70 rfl ?_
          refine k_getR (pc := 71) (r := some (8, 37, 0)) C fl_X7_99 k_in7 rfl rfl rfl dX7_rules_71 ?_
          refine k_iload_n (pc := 74) C dX7_rules_74 rfl ?_
          refine k_ialdX (pc := 75) (j := bg.toNatClampNeg) C rfl (by decide +kernel) rfl (by first | assumption | exact k_vin (N := 6) (n := 6) (by assumption) (by assumption) (by decide)) dX7_rules_75 ?_
          refine k_iload_n (pc := 76) C dX7_rules_76 rfl ?_
          refine k_icmp_ne (pc := 77) C 89 dX7_rules_77 (by decide) (fun c77 => ?_) (fun c77 => ?_)
          · skip
            refine k_iinc_5 (pc := 89) (v := nI (j + 1)) C dX7_rules_89 (k_inc j) rfl ?_
            refine k_goto (pc := 92) C 52 dX7_rules_92 (by decide) ?_
            exact k_cast (by rw [f_X7_ruL_s, if_neg c77]) (by rw [f_X7_ruL_s, if_neg c77]) rfl hk
          · skip
            refine k_iload (pc := 80) C dX7_rules_80 rfl ?_
            refine k_iconst (pc := 82) (v := 1) C dX7_rules_82 (by decide) ?_
            refine k_iload (pc := 83) C dX7_rules_83 rfl ?_
            refine k_ishl (pc := 85) C dX7_rules_85 ?_
            refine k_iadd (pc := 86) C dX7_rules_86 ?_
            refine k_istore_4 (pc := 87) C dX7_rules_87 rfl ?_
            refine k_iinc_5 (pc := 89) (v := nI (j + 1)) C dX7_rules_89 (k_inc j) rfl ?_
            refine k_goto (pc := 92) C 52 dX7_rules_92 (by decide) ?_
            exact k_cast (by rw [f_X7_ruL_s, if_pos c77]) (by rw [f_X7_ruL_s, if_pos c77]) rfl hk
      · skip
        refine k_aload_n (pc := 32) C dX7_rules_32 rfl ?_
        refine k_bipush (pc := 33) (v := (-6)) C dX7_rules_33 (by decide) ?_
        refine k_call1 (pc := 35) C cv_X7_139 (ct_X7_no (k_vd (by decide))) k_in7 rfl (by decide) rfl (Nat.le_of_ble_eq_true rfl) dX7_rules_35 ?_
        exact k_iret (pc := 38) C rfl  (k_fIm (by unfold f_X7_rules; rw [if_neg c5, if_neg c13, if_pos c29]; try rfl)) dX7_rules_38
    · skip
      refine k_aload_n (pc := 16) C dX7_rules_16 rfl ?_
      refine k_iconst (pc := 17) (v := (-1)) C dX7_rules_17 (by decide) ?_
      refine k_call1 (pc := 18) C cv_X7_139 (ct_X7_no (k_vd (by decide))) k_in7 rfl (by decide) rfl (Nat.le_of_ble_eq_true rfl) dX7_rules_18 ?_
      exact k_iret (pc := 21) C rfl  (k_fIm (by unfold f_X7_rules; rw [if_neg c5, if_pos c13]; try rfl)) dX7_rules_21
def f_X7_hiL (mi : MemI) : Nat → Nat
  | 0 => 6
  | j + 1 =>
    if (f_X7_hiL mi j) < 6 then if (mi (8, 40, 0) j) ≤ 0 then (f_X7_hiL mi j)
      else if (mi (8, 40, 0) j) ≤ (mi (8, 40, 0) (f_X7_hiL mi j)) then (f_X7_hiL mi j)
        else j
    else if (mi (8, 40, 0) j) ≤ 0 then 6
      else j
theorem f_X7_hiL_s (mi : MemI) (j : Nat) : f_X7_hiL mi (j + 1) =
    if (f_X7_hiL mi j) < 6 then if (mi (8, 40, 0) j) ≤ 0 then (f_X7_hiL mi j)
      else if (mi (8, 40, 0) j) ≤ (mi (8, 40, 0) (f_X7_hiL mi j)) then (f_X7_hiL mi j)
        else j
    else if (mi (8, 40, 0) j) ≤ 0 then 6
      else j := rfl
def f_X7_hide (mi : MemI) (nC : Nat) (nB : Nat) : Int32 × MemI :=
  (k_op (f_X7_hiL (f_X7_goes mi nC nB) nC), f_X7_goes mi nC nB)
set_option maxRecDepth 100000 in
set_option maxHeartbeats 4000000 in
theorem ct_X7_hide {mi : MemI} {ml : MemL} {nC : Nat} {nB : Nat} (hm : k_mo nC nB mi) : k_Ct k_KS k_R0 Mt_X7_hide 3 [vR (7, 0, 0)] mi ml (k_rt (some (vI (f_X7_hide mi nC nB).1)) (f_X7_hide mi nC nB).2 ml) := by
  refine k_ofV (L0 := [vR (7, 0, 0), vU, vU]) (by decide +kernel) (Nat.le_of_ble_eq_true rfl) rfl rfl ?_
  intro p l e s m args below meth c D cy ad bs C
  have hC := hm.1
  have h6 := hm.2.1
  have hB := hm.2.2.1
  have h6b := hm.2.2.2.1
  refine k_aload_n (pc := 0) C dX7_hide_0 rfl ?_
  refine k_callv0 (pc := 1) C cv_X7_236 (ct_X7_goes hm) k_in7 rfl (by decide) rfl (Nat.le_of_ble_eq_true rfl) dX7_hide_1 ?_
  refine k_iconst (pc := 4) (v := (-1)) C dX7_hide_4 (by decide) ?_
  refine k_istore_1 (pc := 5) C dX7_hide_5 rfl ?_
  refine k_iconst (pc := 6) (v := 0) C dX7_hide_6 (by decide) ?_
  refine k_istore_2 (pc := 7) C dX7_hide_7 rfl ?_
  refine k_cast (L' := [vR (7, 0, 0), vI (k_op (f_X7_hiL (f_X7_goes mi nC nB) 0)), vI (nI 0)]) (mi' := f_X7_goes mi nC nB) (ml' := ml) (by first | rfl | decide) rfl rfl ?_
  refine k_down (P := fun j => k_V p l e (k_rm 3) s m args below meth c D cy ad bs k_KS k_R0 0 0 (k_End below D cy ad bs k_KS k_R0 (k_rt (some (vI (f_X7_hide mi nC nB).1)) (f_X7_hide mi nC nB).2 ml) args s) (f_X7_goes mi nC nB) ml 8 [vR (7, 0, 0), vI (k_op (f_X7_hiL (f_X7_goes mi nC nB) j)), vI (nI j)] []) nC ?_ (fun j hj hk => ?_)
  · skip
    refine k_iload_n (pc := 8) C dX7_hide_8 rfl ?_
    refine k_aload_n (pc := 9) C dX7_hide_9 rfl ?_
    refine k_getI (pc := 10) C fl_X7_129 k_in7 rfl rfl dX7_hide_10 ?_
    refine k_icmp_geT (pc := 13) C 53 dX7_hide_13 (by decide) (k_leC (mo_goes hm).1) ?_
    refine k_iload_n (pc := 53) C dX7_hide_53 rfl ?_
    exact k_iret (pc := 54) C rfl  (k_fIm (by unfold f_X7_hide; try rfl)) dX7_hide_54
  · skip
    try dsimp only at hk
    by_cases hO0 : (f_X7_hiL (f_X7_goes mi nC nB) j) < 6
    · skip
      refine k_cast (L' := [vR (7, 0, 0), vI (nI (f_X7_hiL (f_X7_goes mi nC nB) j)), vI (nI j)]) (by rw [k_op_s hO0]) rfl rfl ?_
      refine k_iload_n (pc := 8) C dX7_hide_8 rfl ?_
      refine k_aload_n (pc := 9) C dX7_hide_9 rfl ?_
      refine k_getI (pc := 10) C fl_X7_129 k_in7 rfl rfl dX7_hide_10 ?_
      refine k_icmp_geF (pc := 13) C 53 dX7_hide_13 (by decide) (k_ngeC (mo_goes hm).1 h6 hj) ?_
      refine k_aload_n (pc := 16) C dX7_hide_16 rfl ?_
      refine k_getR (pc := 17) (r := some (8, 40, 0)) C fl_X7_108 k_in7 rfl rfl rfl dX7_hide_17 ?_
      refine k_iload_n (pc := 20) C dX7_hide_20 rfl ?_
      refine k_ialdX (pc := 21) (j := j) C (nI_clamp (by omega)) (by decide +kernel) rfl (vp_in_nI (show _ < (6 : Nat) by omega) (show (6 : Nat) < 2 ^ 31 by decide)) dX7_hide_21 ?_
      refine k_if_le (pc := 22) C 47 dX7_hide_22 (by decide) (fun c22 => ?_) (fun c22 => ?_)
      · skip
        refine k_iinc_2 (pc := 47) (v := nI (j + 1)) C dX7_hide_47 (k_inc j) rfl ?_
        refine k_goto (pc := 50) C 8 dX7_hide_50 (by decide) ?_
        exact k_cast (by rw [f_X7_hiL_s, if_pos hO0, if_pos c22, k_op_s hO0]) rfl rfl hk
      · skip
        refine k_iload_n (pc := 25) C dX7_hide_25 rfl ?_
        refine k_iconst (pc := 26) (v := (-1)) C dX7_hide_26 (by decide) ?_
        refine k_icmp_eqF (pc := 27) C 45 dX7_hide_27 (by decide) (k_nIne (by first | assumption | omega)) ?_
        refine k_aload_n (pc := 30) C dX7_hide_30 rfl ?_
        refine k_getR (pc := 31) (r := some (8, 40, 0)) C fl_X7_108 k_in7 rfl rfl rfl dX7_hide_31 ?_
        refine k_iload_n (pc := 34) C dX7_hide_34 rfl ?_
        refine k_ialdX (pc := 35) (j := j) C (nI_clamp (by omega)) (by decide +kernel) rfl (vp_in_nI (show _ < (6 : Nat) by omega) (show (6 : Nat) < 2 ^ 31 by decide)) dX7_hide_35 ?_
        refine k_aload_n (pc := 36) C dX7_hide_36 rfl ?_
        refine k_getR (pc := 37) (r := some (8, 40, 0)) C fl_X7_108 k_in7 rfl rfl rfl dX7_hide_37 ?_
        refine k_iload_n (pc := 40) C dX7_hide_40 rfl ?_
        refine k_ialdX (pc := 41) (j := (f_X7_hiL (f_X7_goes mi nC nB) j)) C (nI_clamp (by omega)) (by decide +kernel) rfl (vp_in_nI (show _ < (6 : Nat) by omega) (show (6 : Nat) < 2 ^ 31 by decide)) dX7_hide_41 ?_
        refine k_icmp_le (pc := 42) C 47 dX7_hide_42 (by decide) (fun c42 => ?_) (fun c42 => ?_)
        · skip
          refine k_iinc_2 (pc := 47) (v := nI (j + 1)) C dX7_hide_47 (k_inc j) rfl ?_
          refine k_goto (pc := 50) C 8 dX7_hide_50 (by decide) ?_
          exact k_cast (by rw [f_X7_hiL_s, if_pos hO0, if_neg c22, if_pos c42, k_op_s hO0]) rfl rfl hk
        · skip
          refine k_iload_n (pc := 45) C dX7_hide_45 rfl ?_
          refine k_istore_1 (pc := 46) C dX7_hide_46 rfl ?_
          refine k_iinc_2 (pc := 47) (v := nI (j + 1)) C dX7_hide_47 (k_inc j) rfl ?_
          refine k_goto (pc := 50) C 8 dX7_hide_50 (by decide) ?_
          exact k_cast (by rw [f_X7_hiL_s, if_pos hO0, if_neg c22, if_neg c42, k_op_s (by first | assumption | omega)]) rfl rfl hk
    · skip
      refine k_cast (L' := [vR (7, 0, 0), vI (-1), vI (nI j)]) (by rw [k_op_n hO0]) rfl rfl ?_
      refine k_iload_n (pc := 8) C dX7_hide_8 rfl ?_
      refine k_aload_n (pc := 9) C dX7_hide_9 rfl ?_
      refine k_getI (pc := 10) C fl_X7_129 k_in7 rfl rfl dX7_hide_10 ?_
      refine k_icmp_geF (pc := 13) C 53 dX7_hide_13 (by decide) (k_ngeC (mo_goes hm).1 h6 hj) ?_
      refine k_aload_n (pc := 16) C dX7_hide_16 rfl ?_
      refine k_getR (pc := 17) (r := some (8, 40, 0)) C fl_X7_108 k_in7 rfl rfl rfl dX7_hide_17 ?_
      refine k_iload_n (pc := 20) C dX7_hide_20 rfl ?_
      refine k_ialdX (pc := 21) (j := j) C (nI_clamp (by omega)) (by decide +kernel) rfl (vp_in_nI (show _ < (6 : Nat) by omega) (show (6 : Nat) < 2 ^ 31 by decide)) dX7_hide_21 ?_
      refine k_if_le (pc := 22) C 47 dX7_hide_22 (by decide) (fun c22 => ?_) (fun c22 => ?_)
      · skip
        refine k_iinc_2 (pc := 47) (v := nI (j + 1)) C dX7_hide_47 (k_inc j) rfl ?_
        refine k_goto (pc := 50) C 8 dX7_hide_50 (by decide) ?_
        exact k_cast (by rw [f_X7_hiL_s, if_neg hO0, if_pos c22, k_op_6]) rfl rfl hk
      · skip
        refine k_iload_n (pc := 25) C dX7_hide_25 rfl ?_
        refine k_iconst (pc := 26) (v := (-1)) C dX7_hide_26 (by decide) ?_
        refine k_icmp_eqT (pc := 27) C 45 dX7_hide_27 (by decide) (by decide) ?_
        refine k_iload_n (pc := 45) C dX7_hide_45 rfl ?_
        refine k_istore_1 (pc := 46) C dX7_hide_46 rfl ?_
        refine k_iinc_2 (pc := 47) (v := nI (j + 1)) C dX7_hide_47 (k_inc j) rfl ?_
        refine k_goto (pc := 50) C 8 dX7_hide_50 (by decide) ?_
        exact k_cast (by rw [f_X7_hiL_s, if_neg hO0, if_neg c22, k_op_s (by first | assumption | omega)]) rfl rfl hk
def f_X7_lose (mi : MemI) (cz : Int32) (nC : Nat) (nB : Nat) : Int32 × MemI :=
  if (f_X7_isCitizen mi cz) = 0 then (((f_X7_no mi (-1)).1) - 100, (f_X7_no mi (-1)).2)
  else if (mi (8, 12, 0) cz.toNatClampNeg) = 1 then (((f_X7_no mi (-6)).1) - 100, (f_X7_no mi (-6)).2)
    else (((f_X7_goes (k_ui (f_X7_goes mi nC nB) (8, 12, 0) cz.toNatClampNeg 1) nC nB) (7, 0, 0) 42) - ((f_X7_goes mi nC nB) (7, 0, 0) 42), k_ui (f_X7_goes (k_ui (f_X7_goes mi nC nB) (8, 12, 0) cz.toNatClampNeg 1) nC nB) (8, 12, 0) cz.toNatClampNeg 0)
set_option maxRecDepth 100000 in
set_option maxHeartbeats 4000000 in
theorem ct_X7_lose {mi : MemI} {ml : MemL} {cz : Int32} {nC : Nat} {nB : Nat} (hm : k_mo nC nB mi) : k_Ct k_KS k_R0 Mt_X7_lose 3 [vR (7, 0, 0), vI cz] mi ml (k_rt (some (vI (f_X7_lose mi cz nC nB).1)) (f_X7_lose mi cz nC nB).2 ml) := by
  refine k_ofV (L0 := [vR (7, 0, 0), vI cz, vU]) (by decide +kernel) (Nat.le_of_ble_eq_true rfl) rfl rfl ?_
  intro p l e s m args below meth c D cy ad bs C
  have hC := hm.1
  have h6 := hm.2.1
  have hB := hm.2.2.1
  have h6b := hm.2.2.2.1
  refine k_aload_n (pc := 0) C dX7_lose_0 rfl ?_
  refine k_iload_n (pc := 1) C dX7_lose_1 rfl ?_
  refine k_call1 (pc := 2) C cv_X7_143 ct_X7_isCitizen k_in7 rfl (by decide) rfl (Nat.le_of_ble_eq_true rfl) dX7_lose_2 ?_
  refine k_if_ne (pc := 5) C 17 dX7_lose_5 (by decide) (fun c5 => ?_) (fun c5 => ?_)
  · skip
    have qc5 := vp_mono (isCitizen_in hC h6 c5) h6
    refine k_aload_n (pc := 17) C dX7_lose_17 rfl ?_
    refine k_getR (pc := 18) (r := some (8, 12, 0)) C fl_X7_38 k_in7 rfl rfl rfl dX7_lose_18 ?_
    refine k_iload_n (pc := 21) C dX7_lose_21 rfl ?_
    refine k_ialdX (pc := 22) (j := cz.toNatClampNeg) C rfl (by decide +kernel) rfl (by first | assumption | exact k_vin (N := 6) (n := 6) (by assumption) (by assumption) (by decide)) dX7_lose_22 ?_
    refine k_iconst (pc := 23) (v := 1) C dX7_lose_23 (by decide) ?_
    refine k_icmp_ne (pc := 24) C 37 dX7_lose_24 (by decide) (fun c24 => ?_) (fun c24 => ?_)
    · skip
      refine k_aload_n (pc := 37) C dX7_lose_37 rfl ?_
      refine k_callv0 (pc := 38) C cv_X7_236 (ct_X7_goes hm) k_in7 rfl (by decide) rfl (Nat.le_of_ble_eq_true rfl) dX7_lose_38 ?_
      refine k_aload_n (pc := 41) C dX7_lose_41 rfl ?_
      refine k_getI (pc := 42) C fl_X7_227 k_in7 rfl rfl dX7_lose_42 ?_
      refine k_istore_2 (pc := 45) C dX7_lose_45 rfl ?_
      refine k_aload_n (pc := 46) C dX7_lose_46 rfl ?_
      refine k_getR (pc := 47) (r := some (8, 12, 0)) C fl_X7_38 k_in7 rfl rfl rfl dX7_lose_47 ?_
      refine k_iload_n (pc := 50) C dX7_lose_50 rfl ?_
      refine k_iconst (pc := 51) (v := 1) C dX7_lose_51 (by decide) ?_
      refine k_iastX (pc := 52) (j := cz.toNatClampNeg) C rfl (by decide +kernel) rfl (by first | assumption | exact k_vin (N := 6) (n := 6) (by assumption) (by assumption) (by decide)) dX7_lose_52 ?_
      refine k_aload_n (pc := 53) C dX7_lose_53 rfl ?_
      refine k_callv0 (pc := 54) C cv_X7_236 (ct_X7_goes (k_mo_ui (mo_goes hm) (by simp) (by simp))) k_in7 rfl (by decide) rfl (Nat.le_of_ble_eq_true rfl) dX7_lose_54 ?_
      refine k_aload_n (pc := 57) C dX7_lose_57 rfl ?_
      refine k_getR (pc := 58) (r := some (8, 12, 0)) C fl_X7_38 k_in7 rfl rfl rfl dX7_lose_58 ?_
      refine k_iload_n (pc := 61) C dX7_lose_61 rfl ?_
      refine k_iconst (pc := 62) (v := 0) C dX7_lose_62 (by decide) ?_
      refine k_iastX (pc := 63) (j := cz.toNatClampNeg) C rfl (by decide +kernel) rfl (by first | assumption | exact k_vin (N := 6) (n := 6) (by assumption) (by assumption) (by decide)) dX7_lose_63 ?_
      refine k_aload_n (pc := 64) C dX7_lose_64 rfl ?_
      refine k_getI (pc := 65) C fl_X7_227 k_in7 rfl rfl dX7_lose_65 ?_
      refine k_sx (x := (f_X7_goes (k_ui (f_X7_goes mi nC nB) (8, 12, 0) cz.toNatClampNeg 1) nC nB) (7, 0, 0) 42) (k_uk (by decide)) ?_
      refine k_iload_n (pc := 68) C dX7_lose_68 rfl ?_
      refine k_isub (pc := 69) C dX7_lose_69 ?_
      exact k_iret (pc := 70) C rfl  (k_fIm (by unfold f_X7_lose; rw [if_neg c5, if_neg c24]; try rfl)) dX7_lose_70
    · skip
      refine k_aload_n (pc := 27) C dX7_lose_27 rfl ?_
      refine k_bipush (pc := 28) (v := (-6)) C dX7_lose_28 (by decide) ?_
      refine k_call1 (pc := 30) C cv_X7_139 (ct_X7_no (k_vd (by decide))) k_in7 rfl (by decide) rfl (Nat.le_of_ble_eq_true rfl) dX7_lose_30 ?_
      refine k_bipush (pc := 33) (v := 100) C dX7_lose_33 (by decide) ?_
      refine k_isub (pc := 35) C dX7_lose_35 ?_
      exact k_iret (pc := 36) C rfl  (k_fIm (by unfold f_X7_lose; rw [if_neg c5, if_pos c24]; try rfl)) dX7_lose_36
  · skip
    refine k_aload_n (pc := 8) C dX7_lose_8 rfl ?_
    refine k_iconst (pc := 9) (v := (-1)) C dX7_lose_9 (by decide) ?_
    refine k_call1 (pc := 10) C cv_X7_139 (ct_X7_no (k_vd (by decide))) k_in7 rfl (by decide) rfl (Nat.le_of_ble_eq_true rfl) dX7_lose_10 ?_
    refine k_bipush (pc := 13) (v := 100) C dX7_lose_13 (by decide) ?_
    refine k_isub (pc := 15) C dX7_lose_15 ?_
    exact k_iret (pc := 16) C rfl  (k_fIm (by unfold f_X7_lose; rw [if_pos c5]; try rfl)) dX7_lose_16
def f_X7_beL (mi : MemI) (nC : Nat) (nB : Nat) : Nat → Nat × Int32 × MemI
  | 0 => (6, 0, mi)
  | j + 1 =>
    if ((f_X7_beL mi nC nB j).1) < 6 then if (((f_X7_beL mi nC nB j).2.2) (8, 17, 0) j) = 1 then (((f_X7_beL mi nC nB j).1), ((f_X7_beL mi nC nB j).2.1), (f_X7_beL mi nC nB j).2.2)
      else if ((f_X7_goes (k_ui ((f_X7_beL mi nC nB j).2.2) (8, 17, 0) j 1) nC nB) (7, 0, 0) 42) < ((f_X7_beL mi nC nB j).2.1) then (j, (f_X7_goes (k_ui ((f_X7_beL mi nC nB j).2.2) (8, 17, 0) j 1) nC nB) (7, 0, 0) 42, k_ui (f_X7_goes (k_ui ((f_X7_beL mi nC nB j).2.2) (8, 17, 0) j 1) nC nB) (8, 17, 0) j 0)
        else (((f_X7_beL mi nC nB j).1), ((f_X7_beL mi nC nB j).2.1), k_ui (f_X7_goes (k_ui ((f_X7_beL mi nC nB j).2.2) (8, 17, 0) j 1) nC nB) (8, 17, 0) j 0)
    else if (((f_X7_beL mi nC nB j).2.2) (8, 17, 0) j) = 1 then (6, ((f_X7_beL mi nC nB j).2.1), (f_X7_beL mi nC nB j).2.2)
      else (j, (f_X7_goes (k_ui ((f_X7_beL mi nC nB j).2.2) (8, 17, 0) j 1) nC nB) (7, 0, 0) 42, k_ui (f_X7_goes (k_ui ((f_X7_beL mi nC nB j).2.2) (8, 17, 0) j 1) nC nB) (8, 17, 0) j 0)
theorem f_X7_beL_s (mi : MemI) (nC : Nat) (nB : Nat) (j : Nat) : f_X7_beL mi nC nB (j + 1) =
    if ((f_X7_beL mi nC nB j).1) < 6 then if (((f_X7_beL mi nC nB j).2.2) (8, 17, 0) j) = 1 then (((f_X7_beL mi nC nB j).1), ((f_X7_beL mi nC nB j).2.1), (f_X7_beL mi nC nB j).2.2)
      else if ((f_X7_goes (k_ui ((f_X7_beL mi nC nB j).2.2) (8, 17, 0) j 1) nC nB) (7, 0, 0) 42) < ((f_X7_beL mi nC nB j).2.1) then (j, (f_X7_goes (k_ui ((f_X7_beL mi nC nB j).2.2) (8, 17, 0) j 1) nC nB) (7, 0, 0) 42, k_ui (f_X7_goes (k_ui ((f_X7_beL mi nC nB j).2.2) (8, 17, 0) j 1) nC nB) (8, 17, 0) j 0)
        else (((f_X7_beL mi nC nB j).1), ((f_X7_beL mi nC nB j).2.1), k_ui (f_X7_goes (k_ui ((f_X7_beL mi nC nB j).2.2) (8, 17, 0) j 1) nC nB) (8, 17, 0) j 0)
    else if (((f_X7_beL mi nC nB j).2.2) (8, 17, 0) j) = 1 then (6, ((f_X7_beL mi nC nB j).2.1), (f_X7_beL mi nC nB j).2.2)
      else (j, (f_X7_goes (k_ui ((f_X7_beL mi nC nB j).2.2) (8, 17, 0) j 1) nC nB) (7, 0, 0) 42, k_ui (f_X7_goes (k_ui ((f_X7_beL mi nC nB j).2.2) (8, 17, 0) j 1) nC nB) (8, 17, 0) j 0) := rfl
theorem mo_beL {nC nB : Nat} {mi : MemI}  (h : k_mo nC nB mi) : ∀ j, k_mo nC nB ((f_X7_beL mi nC nB j).2.2) := by
  intro j
  induction j with
  | zero => exact h
  | succ j ih =>
    rw [f_X7_beL_s]
    repeat' split
    all_goals first | exact ih | exact k_mo_ui (mo_goes (k_mo_ui ih (by simp) (by simp))) (by simp) (by simp)
def f_X7_best (mi : MemI) (nC : Nat) (nB : Nat) : Int32 × MemI :=
  (k_op ((f_X7_beL mi nC nB nB).1), (f_X7_beL mi nC nB nB).2.2)
set_option maxRecDepth 100000 in
set_option maxHeartbeats 4000000 in
theorem ct_X7_best {mi : MemI} {ml : MemL} {nC : Nat} {nB : Nat} (hm : k_mo nC nB mi) : k_Ct k_KS k_R0 Mt_X7_best 3 [vR (7, 0, 0)] mi ml (k_rt (some (vI (f_X7_best mi nC nB).1)) (f_X7_best mi nC nB).2 ml) := by
  refine k_ofV (L0 := [vR (7, 0, 0), vU, vU, vU]) (by decide +kernel) (Nat.le_of_ble_eq_true rfl) rfl rfl ?_
  intro p l e s m args below meth c D cy ad bs C
  have hC := hm.1
  have h6 := hm.2.1
  have hB := hm.2.2.1
  have h6b := hm.2.2.2.1
  refine k_iconst (pc := 0) (v := (-1)) C dX7_best_0 (by decide) ?_
  refine k_istore_1 (pc := 1) C dX7_best_1 rfl ?_
  refine k_iconst (pc := 2) (v := 0) C dX7_best_2 (by decide) ?_
  refine k_istore_2 (pc := 3) C dX7_best_3 rfl ?_
  refine k_iconst (pc := 4) (v := 0) C dX7_best_4 (by decide) ?_
  refine k_istore_3 (pc := 5) C dX7_best_5 rfl ?_
  refine k_cast (L' := [vR (7, 0, 0), vI (k_op ((f_X7_beL mi nC nB 0).1)), vI ((f_X7_beL mi nC nB 0).2.1), vI (nI 0)]) (mi' := (f_X7_beL mi nC nB 0).2.2) (ml' := ml) (by first | rfl | decide) rfl rfl ?_
  refine k_down (P := fun j => k_V p l e (k_rm 3) s m args below meth c D cy ad bs k_KS k_R0 0 0 (k_End below D cy ad bs k_KS k_R0 (k_rt (some (vI (f_X7_best mi nC nB).1)) (f_X7_best mi nC nB).2 ml) args s) ((f_X7_beL mi nC nB j).2.2) ml 6 [vR (7, 0, 0), vI (k_op ((f_X7_beL mi nC nB j).1)), vI ((f_X7_beL mi nC nB j).2.1), vI (nI j)] []) nB ?_ (fun j hj hk => ?_)
  · skip
    have hmj : k_mo nC nB ((f_X7_beL mi nC nB nB).2.2) := mo_beL hm nB
    refine k_iload_n (pc := 6) C dX7_best_6 rfl ?_
    refine k_aload_n (pc := 7) C dX7_best_7 rfl ?_
    refine k_getI (pc := 8) C fl_X7_132 k_in7 rfl rfl dX7_best_8 ?_
    refine k_icmp_geT (pc := 11) C 74 dX7_best_11 (by decide) (k_leC hmj.2.2.1) ?_
    refine k_iload_n (pc := 74) C dX7_best_74 rfl ?_
    exact k_iret (pc := 75) C rfl  (k_fIm (by unfold f_X7_best; try rfl)) dX7_best_75
  · skip
    try dsimp only at hk
    have hmj : k_mo nC nB ((f_X7_beL mi nC nB j).2.2) := mo_beL hm j
    by_cases hO0 : ((f_X7_beL mi nC nB j).1) < 6
    · skip
      refine k_cast (L' := [vR (7, 0, 0), vI (nI ((f_X7_beL mi nC nB j).1)), vI ((f_X7_beL mi nC nB j).2.1), vI (nI j)]) (by rw [k_op_s hO0]) rfl rfl ?_
      refine k_iload_n (pc := 6) C dX7_best_6 rfl ?_
      refine k_aload_n (pc := 7) C dX7_best_7 rfl ?_
      refine k_getI (pc := 8) C fl_X7_132 k_in7 rfl rfl dX7_best_8 ?_
      refine k_icmp_geF (pc := 11) C 74 dX7_best_11 (by decide) (k_ngeC hmj.2.2.1 h6b hj) ?_
      refine k_aload_n (pc := 14) C dX7_best_14 rfl ?_
      refine k_getR (pc := 15) (r := some (8, 17, 0)) C fl_X7_53 k_in7 rfl rfl rfl dX7_best_15 ?_
      refine k_iload_n (pc := 18) C dX7_best_18 rfl ?_
      refine k_ialdX (pc := 19) (j := j) C (nI_clamp (by omega)) (by decide +kernel) rfl (vp_in_nI (show _ < (6 : Nat) by omega) (show (6 : Nat) < 2 ^ 31 by decide)) dX7_best_19 ?_
      refine k_iconst (pc := 20) (v := 1) C dX7_best_20 (by decide) ?_
      refine k_icmp_ne (pc := 21) C 27 dX7_best_21 (by decide) (fun c21 => ?_) (fun c21 => ?_)
      · skip
        refine k_aload_n (pc := 27) C dX7_best_27 rfl ?_
        refine k_getR (pc := 28) (r := some (8, 17, 0)) C fl_X7_53 k_in7 rfl rfl rfl dX7_best_28 ?_
        refine k_iload_n (pc := 31) C dX7_best_31 rfl ?_
        refine k_iconst (pc := 32) (v := 1) C dX7_best_32 (by decide) ?_
        refine k_iastX (pc := 33) (j := j) C (nI_clamp (by omega)) (by decide +kernel) rfl (vp_in_nI (show _ < (6 : Nat) by omega) (show (6 : Nat) < 2 ^ 31 by decide)) dX7_best_33 ?_
        refine k_aload_n (pc := 34) C dX7_best_34 rfl ?_
        refine k_callv0 (pc := 35) C cv_X7_236 (ct_X7_goes (k_mo_ui hmj (by simp) (by simp))) k_in7 rfl (by decide) rfl (Nat.le_of_ble_eq_true rfl) dX7_best_35 ?_
        refine k_aload_n (pc := 38) C dX7_best_38 rfl ?_
        refine k_getR (pc := 39) (r := some (8, 17, 0)) C fl_X7_53 k_in7 rfl rfl rfl dX7_best_39 ?_
        refine k_iload_n (pc := 42) C dX7_best_42 rfl ?_
        refine k_iconst (pc := 43) (v := 0) C dX7_best_43 (by decide) ?_
        refine k_iastX (pc := 44) (j := j) C (nI_clamp (by omega)) (by decide +kernel) rfl (vp_in_nI (show _ < (6 : Nat) by omega) (show (6 : Nat) < 2 ^ 31 by decide)) dX7_best_44 ?_
        refine k_iload_n (pc := 45) C dX7_best_45 rfl ?_
        refine k_iconst (pc := 46) (v := (-1)) C dX7_best_46 (by decide) ?_
        refine k_icmp_eqF (pc := 47) C 61 dX7_best_47 (by decide) (k_nIne (by first | assumption | omega)) ?_
        refine k_aload_n (pc := 50) C dX7_best_50 rfl ?_
        refine k_getI (pc := 51) C fl_X7_227 k_in7 rfl rfl dX7_best_51 ?_
        refine k_sx (x := (f_X7_goes (k_ui ((f_X7_beL mi nC nB j).2.2) (8, 17, 0) j 1) nC nB) (7, 0, 0) 42) (k_uk (by decide)) ?_
        refine k_iload_n (pc := 54) C dX7_best_54 rfl ?_
        refine k_icmp_lt (pc := 55) C 61 dX7_best_55 (by decide) (fun c55 => ?_) (fun c55 => ?_)
        · skip
          refine k_iload_n (pc := 61) C dX7_best_61 rfl ?_
          refine k_istore_1 (pc := 62) C dX7_best_62 rfl ?_
          refine k_aload_n (pc := 63) C dX7_best_63 rfl ?_
          refine k_getI (pc := 64) C fl_X7_227 k_in7 rfl rfl dX7_best_64 ?_
          refine k_sx (x := (f_X7_goes (k_ui ((f_X7_beL mi nC nB j).2.2) (8, 17, 0) j 1) nC nB) (7, 0, 0) 42) (k_uk (by decide)) ?_
          refine k_istore_2 (pc := 67) C dX7_best_67 rfl ?_
          refine k_iinc_3 (pc := 68) (v := nI (j + 1)) C dX7_best_68 (k_inc j) rfl ?_
          refine k_goto (pc := 71) C 6 dX7_best_71 (by decide) ?_
          exact k_cast (by rw [f_X7_beL_s, if_pos hO0, if_neg c21, if_pos c55, k_op_s (by first | assumption | omega)]) (by rw [f_X7_beL_s, if_pos hO0, if_neg c21, if_pos c55]) rfl hk
        · skip
          refine k_goto (pc := 58) C 68 dX7_best_58 (by decide) ?_
          refine k_iinc_3 (pc := 68) (v := nI (j + 1)) C dX7_best_68 (k_inc j) rfl ?_
          refine k_goto (pc := 71) C 6 dX7_best_71 (by decide) ?_
          exact k_cast (by rw [f_X7_beL_s, if_pos hO0, if_neg c21, if_neg c55, k_op_s hO0]) (by rw [f_X7_beL_s, if_pos hO0, if_neg c21, if_neg c55]) rfl hk
      · skip
        refine k_goto (pc := 24) C 68 dX7_best_24 (by decide) ?_
        refine k_iinc_3 (pc := 68) (v := nI (j + 1)) C dX7_best_68 (k_inc j) rfl ?_
        refine k_goto (pc := 71) C 6 dX7_best_71 (by decide) ?_
        exact k_cast (by rw [f_X7_beL_s, if_pos hO0, if_pos c21, k_op_s hO0]) (by rw [f_X7_beL_s, if_pos hO0, if_pos c21]) rfl hk
    · skip
      refine k_cast (L' := [vR (7, 0, 0), vI (-1), vI ((f_X7_beL mi nC nB j).2.1), vI (nI j)]) (by rw [k_op_n hO0]) rfl rfl ?_
      refine k_iload_n (pc := 6) C dX7_best_6 rfl ?_
      refine k_aload_n (pc := 7) C dX7_best_7 rfl ?_
      refine k_getI (pc := 8) C fl_X7_132 k_in7 rfl rfl dX7_best_8 ?_
      refine k_icmp_geF (pc := 11) C 74 dX7_best_11 (by decide) (k_ngeC hmj.2.2.1 h6b hj) ?_
      refine k_aload_n (pc := 14) C dX7_best_14 rfl ?_
      refine k_getR (pc := 15) (r := some (8, 17, 0)) C fl_X7_53 k_in7 rfl rfl rfl dX7_best_15 ?_
      refine k_iload_n (pc := 18) C dX7_best_18 rfl ?_
      refine k_ialdX (pc := 19) (j := j) C (nI_clamp (by omega)) (by decide +kernel) rfl (vp_in_nI (show _ < (6 : Nat) by omega) (show (6 : Nat) < 2 ^ 31 by decide)) dX7_best_19 ?_
      refine k_iconst (pc := 20) (v := 1) C dX7_best_20 (by decide) ?_
      refine k_icmp_ne (pc := 21) C 27 dX7_best_21 (by decide) (fun c21 => ?_) (fun c21 => ?_)
      · skip
        refine k_aload_n (pc := 27) C dX7_best_27 rfl ?_
        refine k_getR (pc := 28) (r := some (8, 17, 0)) C fl_X7_53 k_in7 rfl rfl rfl dX7_best_28 ?_
        refine k_iload_n (pc := 31) C dX7_best_31 rfl ?_
        refine k_iconst (pc := 32) (v := 1) C dX7_best_32 (by decide) ?_
        refine k_iastX (pc := 33) (j := j) C (nI_clamp (by omega)) (by decide +kernel) rfl (vp_in_nI (show _ < (6 : Nat) by omega) (show (6 : Nat) < 2 ^ 31 by decide)) dX7_best_33 ?_
        refine k_aload_n (pc := 34) C dX7_best_34 rfl ?_
        refine k_callv0 (pc := 35) C cv_X7_236 (ct_X7_goes (k_mo_ui hmj (by simp) (by simp))) k_in7 rfl (by decide) rfl (Nat.le_of_ble_eq_true rfl) dX7_best_35 ?_
        refine k_aload_n (pc := 38) C dX7_best_38 rfl ?_
        refine k_getR (pc := 39) (r := some (8, 17, 0)) C fl_X7_53 k_in7 rfl rfl rfl dX7_best_39 ?_
        refine k_iload_n (pc := 42) C dX7_best_42 rfl ?_
        refine k_iconst (pc := 43) (v := 0) C dX7_best_43 (by decide) ?_
        refine k_iastX (pc := 44) (j := j) C (nI_clamp (by omega)) (by decide +kernel) rfl (vp_in_nI (show _ < (6 : Nat) by omega) (show (6 : Nat) < 2 ^ 31 by decide)) dX7_best_44 ?_
        refine k_iload_n (pc := 45) C dX7_best_45 rfl ?_
        refine k_iconst (pc := 46) (v := (-1)) C dX7_best_46 (by decide) ?_
        refine k_icmp_eqT (pc := 47) C 61 dX7_best_47 (by decide) (by decide) ?_
        refine k_iload_n (pc := 61) C dX7_best_61 rfl ?_
        refine k_istore_1 (pc := 62) C dX7_best_62 rfl ?_
        refine k_aload_n (pc := 63) C dX7_best_63 rfl ?_
        refine k_getI (pc := 64) C fl_X7_227 k_in7 rfl rfl dX7_best_64 ?_
        refine k_sx (x := (f_X7_goes (k_ui ((f_X7_beL mi nC nB j).2.2) (8, 17, 0) j 1) nC nB) (7, 0, 0) 42) (k_uk (by decide)) ?_
        refine k_istore_2 (pc := 67) C dX7_best_67 rfl ?_
        refine k_iinc_3 (pc := 68) (v := nI (j + 1)) C dX7_best_68 (k_inc j) rfl ?_
        refine k_goto (pc := 71) C 6 dX7_best_71 (by decide) ?_
        exact k_cast (by rw [f_X7_beL_s, if_neg hO0, if_neg c21, k_op_s (by first | assumption | omega)]) (by rw [f_X7_beL_s, if_neg hO0, if_neg c21]) rfl hk
      · skip
        refine k_goto (pc := 24) C 68 dX7_best_24 (by decide) ?_
        refine k_iinc_3 (pc := 68) (v := nI (j + 1)) C dX7_best_68 (k_inc j) rfl ?_
        refine k_goto (pc := 71) C 6 dX7_best_71 (by decide) ?_
        exact k_cast (by rw [f_X7_beL_s, if_neg hO0, if_pos c21, k_op_6]) (by rw [f_X7_beL_s, if_neg hO0, if_pos c21]) rfl hk
