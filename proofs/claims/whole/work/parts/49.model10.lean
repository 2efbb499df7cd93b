/-! Model: rests, rows, what stands, winters -/
theorem drL_fr {mi : MemI} {nC : Nat} {k : Ky} (h1 : k ≠ (8, 47, 0)) (h2 : k ≠ (8, 45, 0)) : ∀ j q, (f_X7_drL mi nC j).2 k q = mi k q := by
  intro j q
  induction j with
  | zero => rfl
  | succ j ih =>
    rw [f_X7_drL_s]
    split
    · exact ih
    · dsimp only
      rw [k_uk h2, k_uk h1, k_uk h1]; exact ih
theorem raR_fr {nC cm : Nat} {k : Ky} (h1 : k ≠ (8, 47, 0)) (h2 : k ≠ (8, 45, 0)) : ∀ u j mi q, (f_X7_raR nC cm u j mi).2 k q = mi k q := by
  intro u
  induction u with
  | zero => intro j mi q; rfl
  | succ u ih =>
    intro j mi q
    rw [f_X7_raR_s]
    split
    · exact drL_fr h1 h2 cm q
    · exact (ih _ _ q).trans (drL_fr h1 h2 cm q)
theorem ra_fr {mi : MemI} {nC cm : Nat} {k : Ky} (h1 : k ≠ (8, 47, 0)) (h2 : k ≠ (8, 45, 0)) (q : Nat) : (f_X7_restsAfter mi nC cm).2 k q = mi k q := by
  unfold f_X7_restsAfter
  split
  · exact (raR_fr h1 h2 _ _ _ q).trans ((ra3_fr h2 _ q).trans (ra2_fr h1 _ q))
  · rfl
theorem fi_x {mi : MemI} (h : mi (7, 0, 0) 48 = 0) {b : Nat} (hb : mi (8, 17, 0) b = 0) : ∀ j, b < j → ∃ i, i < f_X7_fc mi j ∧ f_X7_fi mi j (8, 44, 0) i = nI b := by
  intro j
  induction j with
  | zero => intro hj; omega
  | succ j ih =>
    intro hj
    rw [f_X7_fc_s, f_X7_fi_s]
    by_cases e : b = j
    · subst e
      rw [if_pos hb, if_pos hb]
      exact ⟨f_X7_fc mi b, by omega, k_uis⟩
    · obtain ⟨i, hi, h2⟩ := ih (by omega)
      split
      · exact ⟨i, by omega, by rw [k_uj (by omega), k_uk (by decide)]; exact h2⟩
      · exact ⟨i, hi, h2⟩
theorem files_x {mi : MemI} {nB b : Nat} (hb : b < nB) (hp : mi (8, 17, 0) b = 0) : ∃ i, i < f_X7_fc mi nB ∧ f_X7_files mi nB (8, 44, 0) i = nI b := by
  obtain ⟨i, hi, h2⟩ := fi_x (mi := k_ui mi (7, 0, 0) 48 0) (k_uis (v := 0)) (b := b) ((k_uk (by decide)).trans hp) nB hb
  exact ⟨i, by rw [fc_eq (m := k_ui mi (7, 0, 0) 48 0) (mi := mi) (fun b => k_uk (by decide)) nB] at hi; exact hi, h2⟩
/-- the place in the file, from j on -/
def f_X7_seR (mi : MemI) (bg : Int32) : Nat → Nat → Nat
  | 0, j => j
  | u + 1, j => if mi (8, 44, 0) j = bg then j else f_X7_seR mi bg u (j + 1)
theorem f_X7_seR_s (mi : MemI) (bg : Int32) (u j : Nat) : f_X7_seR mi bg (u + 1) j = if mi (8, 44, 0) j = bg then j else f_X7_seR mi bg u (j + 1) := rfl
def f_X7_rests (mi : MemI) (bg : Int32) (nC : Nat) (nB : Nat) : Int32 × MemI :=
  if bg = (-1) then ((f_X7_restsAfter (f_X7_files mi nB) nC (f_X7_fc mi nB)).1, (f_X7_restsAfter (f_X7_files mi nB) nC (f_X7_fc mi nB)).2)
  else if (f_X7_isBeggar mi bg) = 0 then ((f_X7_noTen mi (-1)).1, (f_X7_noTen mi (-1)).2)
    else if (mi (8, 17, 0) bg.toNatClampNeg) = 1 then ((f_X7_noTen mi (-1)).1, (f_X7_noTen mi (-1)).2)
      else if ((f_X7_restsAfter (f_X7_files mi nB) nC (f_X7_fc mi nB)).1) = (-1) then ((f_X7_restsAfter (f_X7_files mi nB) nC (f_X7_fc mi nB)).1, (f_X7_restsAfter (f_X7_files mi nB) nC (f_X7_fc mi nB)).2)
        else (((f_X7_restsAfter (f_X7_files mi nB) nC (f_X7_fc mi nB)).2) (8, 45, 0) (f_X7_seR ((f_X7_restsAfter (f_X7_files mi nB) nC (f_X7_fc mi nB)).2) bg (f_X7_fc mi nB) 0), (f_X7_restsAfter (f_X7_files mi nB) nC (f_X7_fc mi nB)).2)
set_option maxRecDepth 100000 in
set_option maxHeartbeats 4000000 in
theorem ct_X7_rests {mi : MemI} {ml : MemL} {bg : Int32} {nC : Nat} {nB : Nat} (hm : k_mo nC nB mi) (hpz : ∀ b, b < nB → mi (8, 17, 0) b = 0 ∨ mi (8, 17, 0) b = 1) : k_Ct k_KS k_R0 Mt_X7_rests 3 [vR (7, 0, 0), vI bg] mi ml (k_rt (some (vI (f_X7_rests mi bg nC nB).1)) (f_X7_rests mi bg nC nB).2 ml) := by
  refine k_ofV (L0 := [vR (7, 0, 0), vI bg, vU, vU]) (by decide +kernel) (Nat.le_of_ble_eq_true rfl) rfl rfl ?_
  intro p l e s m args below meth c D cy ad bs C
  have hC := hm.1
  have h6 := hm.2.1
  have hB := hm.2.2.1
  have h6b := hm.2.2.2.1
  refine k_iload_n (pc := 0) C dX7_rests_0 rfl ?_
  refine k_iconst (pc := 1) (v := (-1)) C dX7_rests_1 (by decide) ?_
  refine k_icmp_eq (pc := 2) C 29 dX7_rests_2 (by decide) (fun c2 => ?_) (fun c2 => ?_)
  · skip
    refine k_aload_n (pc := 29) C dX7_rests_29 rfl ?_
    refine k_callv0 (pc := 30) C cv_X7_255 (ct_X7_files hm) k_in7 rfl (by decide) rfl (Nat.le_of_ble_eq_true rfl) dX7_rests_30 ?_
    refine k_aload_n (pc := 33) C dX7_rests_33 rfl ?_
    refine k_call0 (pc := 34) C cv_X7_265 (ct_X7_restsAfter (pt_files hm)) k_in7 rfl (by decide) rfl (Nat.le_of_ble_eq_true rfl) dX7_rests_34 ?_
    refine k_istore_2 (pc := 37) C dX7_rests_37 rfl ?_
    refine k_iconst (pc := 38) (v := 0) C dX7_rests_38 (by decide) ?_
    refine k_istore_3 (pc := 39) C dX7_rests_39 rfl ?_
    refine k_iload_n (pc := 40) C dX7_rests_40 rfl ?_
    refine k_iconst (pc := 41) (v := (-1)) C dX7_rests_41 (by decide) ?_
    refine k_icmp_eqT (pc := 42) C 50 dX7_rests_42 (by decide) c2 ?_
    refine k_iload_n (pc := 50) C dX7_rests_50 rfl ?_
    exact k_iret (pc := 51) C rfl  (k_fIm (by unfold f_X7_rests; rw [if_pos c2]; try rfl)) dX7_rests_51
  · skip
    refine k_aload_n (pc := 5) C dX7_rests_5 rfl ?_
    refine k_iload_n (pc := 6) C dX7_rests_6 rfl ?_
    refine k_call1 (pc := 7) C cv_X7_161 ct_X7_isBeggar k_in7 rfl (by decide) rfl (Nat.le_of_ble_eq_true rfl) dX7_rests_7 ?_
    refine k_if_eq (pc := 10) C 23 dX7_rests_10 (by decide) (fun c10 => ?_) (fun c10 => ?_)
    · skip
      refine k_aload_n (pc := 23) C dX7_rests_23 rfl ?_
      refine k_iconst (pc := 24) (v := (-1)) C dX7_rests_24 (by decide) ?_
      refine k_call1 (pc := 25) C cv_X7_164 (ct_X7_noTen (k_vd (by decide))) k_in7 rfl (by decide) rfl (Nat.le_of_ble_eq_true rfl) dX7_rests_25 ?_
      exact k_iret (pc := 28) C rfl  (k_fIm (by unfold f_X7_rests; rw [if_neg c2, if_pos c10]; try rfl)) dX7_rests_28
    · skip
      have qc10 := vp_mono (isBeggar_in hB h6b c10) h6b
      refine k_aload_n (pc := 13) C dX7_rests_13 rfl ?_
      refine k_getR (pc := 14) (r := some (8, 17, 0)) C fl_X7_53 k_in7 rfl rfl rfl dX7_rests_14 ?_
      refine k_iload_n (pc := 17) C dX7_rests_17 rfl ?_
      refine k_ialdX (pc := 18) (j := bg.toNatClampNeg) C rfl (by decide +kernel) rfl (by first | assumption | exact k_vin (N := 6) (n := 6) (by assumption) (by assumption) (by decide)) dX7_rests_18 ?_
      refine k_iconst (pc := 19) (v := 1) C dX7_rests_19 (by decide) ?_
      refine k_icmp_ne (pc := 20) C 29 dX7_rests_20 (by decide) (fun c20 => ?_) (fun c20 => ?_)
      · skip
        refine k_aload_n (pc := 29) C dX7_rests_29 rfl ?_
        refine k_callv0 (pc := 30) C cv_X7_255 (ct_X7_files hm) k_in7 rfl (by decide) rfl (Nat.le_of_ble_eq_true rfl) dX7_rests_30 ?_
        refine k_aload_n (pc := 33) C dX7_rests_33 rfl ?_
        refine k_call0 (pc := 34) C cv_X7_265 (ct_X7_restsAfter (pt_files hm)) k_in7 rfl (by decide) rfl (Nat.le_of_ble_eq_true rfl) dX7_rests_34 ?_
        refine k_istore_2 (pc := 37) C dX7_rests_37 rfl ?_
        refine k_iconst (pc := 38) (v := 0) C dX7_rests_38 (by decide) ?_
        refine k_istore_3 (pc := 39) C dX7_rests_39 rfl ?_
        refine k_iload_n (pc := 40) C dX7_rests_40 rfl ?_
        refine k_iconst (pc := 41) (v := (-1)) C dX7_rests_41 (by decide) ?_
        refine k_icmp_eqF (pc := 42) C 50 dX7_rests_42 (by decide) c2 ?_
        refine k_iload_n (pc := 45) C dX7_rests_45 rfl ?_
        refine k_iconst (pc := 46) (v := (-1)) C dX7_rests_46 (by decide) ?_
        refine k_icmp_ne (pc := 47) C 52 dX7_rests_47 (by decide) (fun c47 => ?_) (fun c47 => ?_)
        · skip
          have hF : f_X7_rests mi bg nC nB = (((f_X7_restsAfter (f_X7_files mi nB) nC (f_X7_fc mi nB)).2) (8, 45, 0) (f_X7_seR ((f_X7_restsAfter (f_X7_files mi nB) nC (f_X7_fc mi nB)).2) bg (f_X7_fc mi nB) 0), ((f_X7_restsAfter (f_X7_files mi nB) nC (f_X7_fc mi nB)).2)) := by unfold f_X7_rests; rw [if_neg c2, if_neg c10, if_neg c20, if_neg c47]
          rw [hF]
          dsimp only
          have hcm := (pt_files hm).2.2.2.1
          have hex : ∃ i0, i0 < (f_X7_fc mi nB) ∧ ((f_X7_restsAfter (f_X7_files mi nB) nC (f_X7_fc mi nB)).2) (8, 44, 0) i0 = bg := by
            have hv := isBeggar_in hB h6b c10
            obtain ⟨i0, h1, h2⟩ := files_x (k_clamp hv) ((hpz _ (k_clamp hv)).resolve_right c20)
            exact ⟨i0, h1, by rw [ra_fr (by decide) (by decide), h2]; exact (k_nat hv).symm⟩
          have hloop : ∀ (u j : Nat), j + u = (f_X7_fc mi nB) → (∀ i, i < j → ¬ ((f_X7_restsAfter (f_X7_files mi nB) nC (f_X7_fc mi nB)).2) (8, 44, 0) i = bg) → f_X7_seR ((f_X7_restsAfter (f_X7_files mi nB) nC (f_X7_fc mi nB)).2) bg u j = f_X7_seR ((f_X7_restsAfter (f_X7_files mi nB) nC (f_X7_fc mi nB)).2) bg (f_X7_fc mi nB) 0 → k_V p l e (k_rm 3) s m args below meth c D cy ad bs k_KS k_R0 0 0 (k_End below D cy ad bs k_KS k_R0 (k_rt (some (vI (((f_X7_restsAfter (f_X7_files mi nB) nC (f_X7_fc mi nB)).2) (8, 45, 0) (f_X7_seR ((f_X7_restsAfter (f_X7_files mi nB) nC (f_X7_fc mi nB)).2) bg (f_X7_fc mi nB) 0)))) ((f_X7_restsAfter (f_X7_files mi nB) nC (f_X7_fc mi nB)).2) ml) args s) ((f_X7_restsAfter (f_X7_files mi nB) nC (f_X7_fc mi nB)).2) ml 52 [vR (7, 0, 0), vI bg, vI ((f_X7_restsAfter (f_X7_files mi nB) nC (f_X7_fc mi nB)).1), vI (nI j)] [] := by
            intro u
            induction u with
            | zero =>
              intro j hju hbe hres
              obtain ⟨i0, h1, h2⟩ := hex
              exact absurd h2 (hbe i0 (by omega))
            | succ u ih =>
              intro j hju hbe hres
              refine k_aload_n (pc := 52) C dX7_rests_52 rfl ?_
              refine k_getR (pc := 53) (r := some (8, 44, 0)) C fl_X7_114 k_in7 rfl rfl rfl dX7_rests_53 ?_
              refine k_iload_n (pc := 56) C dX7_rests_56 rfl ?_
              refine k_ialdX (pc := 57) (j := j) C (nI_clamp (by omega)) (by decide +kernel) rfl (vp_in_nI (show _ < (6 : Nat) by omega) (show (6 : Nat) < 2 ^ 31 by decide)) dX7_rests_57 ?_
              refine k_iload_n (pc := 58) C dX7_rests_58 rfl ?_
              refine k_icmp_eq (pc := 59) C 68 dX7_rests_59 (by decide) (fun c59 => ?_) (fun c59 => ?_)
              · skip
                refine k_aload_n (pc := 68) C dX7_rests_68 rfl ?_
                refine k_getR (pc := 69) (r := some (8, 45, 0)) C fl_X7_117 k_in7 rfl rfl rfl dX7_rests_69 ?_
                refine k_iload_n (pc := 72) C dX7_rests_72 rfl ?_
                refine k_ialdX (pc := 73) (j := j) C (nI_clamp (by omega)) (by decide +kernel) rfl (vp_in_nI (show _ < (6 : Nat) by omega) (show (6 : Nat) < 2 ^ 31 by decide)) dX7_rests_73 ?_
                exact k_iret (pc := 74) C rfl (k_fI (by rw [← hres, f_X7_seR_s, if_pos c59])) dX7_rests_74
              · skip
                refine k_iinc_3 (pc := 62) (v := nI (j + 1)) C dX7_rests_62 (k_inc j) rfl ?_
                refine k_goto (pc := 65) C 52 dX7_rests_65 (by decide) ?_
                exact ih (j + 1) (by omega) (fun i hi => if e : i = j then e ▸ c59 else hbe i (by omega)) (by rw [← hres, f_X7_seR_s, if_neg c59])
          exact hloop (f_X7_fc mi nB) 0 (by omega) (fun i hi => absurd hi (Nat.not_lt_zero i)) rfl
        · skip
          refine k_iload_n (pc := 50) C dX7_rests_50 rfl ?_
          exact k_iret (pc := 51) C rfl  (k_fIm (by unfold f_X7_rests; rw [if_neg c2, if_neg c10, if_neg c20, if_pos c47]; try rfl)) dX7_rests_51
      · skip
        refine k_aload_n (pc := 23) C dX7_rests_23 rfl ?_
        refine k_iconst (pc := 24) (v := (-1)) C dX7_rests_24 (by decide) ?_
        refine k_call1 (pc := 25) C cv_X7_164 (ct_X7_noTen (k_vd (by decide))) k_in7 rfl (by decide) rfl (Nat.le_of_ble_eq_true rfl) dX7_rests_25 ?_
        exact k_iret (pc := 28) C rfl  (k_fIm (by unfold f_X7_rests; rw [if_neg c2, if_neg c10, if_pos c20]; try rfl)) dX7_rests_28
theorem k_cpb {mi : MemI} {sn : Nat} {x n : Int32} (hsz : k_sz mi) (hs : sn < 8) (hx : ¬ x < 0) (hn : ¬ n < 0) (h : x ≤ mi (8, 20, 0) sn - n) : x.toNatClampNeg + n.toNatClampNeg ≤ 160 := by
  obtain ⟨len, hl, e⟩ := hsz sn hs
  rw [e] at h
  obtain ⟨a, ha, rfl⟩ := nI_of hx
  obtain ⟨b, hb, rfl⟩ := nI_of hn
  rw [nI_clamp ha, nI_clamp hb]
  have h2 := Int32.le_iff_toInt_le.mp h
  rw [nI_toInt ha, Int32.toInt_sub, nI_toInt (by omega), nI_toInt hb] at h2
  have h3 : ((len : Int) - (b : Int)).bmod (2 ^ 32) = (len : Int) - (b : Int) := by
    simp only [Int.bmod_def]
    omega
  rw [h3] at h2
  omega
theorem k_cellin3 {s0 x : Int32} {j : Nat} (hs : vp_in s0 8) (hx : ¬ x < 0) (hb : x.toNatClampNeg + j < 160) : vp_in (160 * s0 + x + nI j) 1280 ∧ (160 * s0 + x + nI j).toNatClampNeg = 160 * s0.toNatClampNeg + x.toNatClampNeg + j := by
  obtain ⟨a, ha, rfl⟩ := vp_in_of hs (by decide)
  obtain ⟨b, hb2, rfl⟩ := nI_of hx
  rw [nI_clamp hb2] at hb
  have e : (160 : Int32) * nI a + nI b + nI j = nI (160 * a + b + j) := by
    rw [show (160 : Int32) = nI 160 from rfl, pk_mul, nI_add, nI_add]
  rw [e, nI_clamp (by omega), nI_clamp (by omega), nI_clamp (by omega)]
  exact ⟨vp_in_nI (by omega) (by decide), rfl⟩
theorem k_v17 {w : Int32} (h1 : ¬ w < 11) (h2 : ¬ 17 < w) : vp_in (w - 10) 8 := by
  have a := (not_congr Int32.lt_iff_toInt_lt).mp h1
  have b := (not_congr Int32.lt_iff_toInt_lt).mp h2
  have e1 : (11 : Int32).toInt = 11 := rfl
  have e2 : (17 : Int32).toInt = 17 := rfl
  have e3 : (10 : Int32).toInt = 10 := rfl
  have h3 : (w - 10).toInt = w.toInt - 10 := by
    rw [Int32.toInt_sub, e3]
    simp only [Int.bmod_def]
    omega
  have h4 : ¬ (w - 10) < 0 := fun q => by
    have := Int32.lt_iff_toInt_lt.mp q
    have e : (0 : Int32).toInt = 0 := rfl
    omega
  obtain ⟨j, hj, e⟩ := nI_of h4
  rw [e, nI_toInt hj] at h3
  rw [e]
  exact vp_in_nI (by omega) (by decide)
def f_X7_rwL (ml : MemL) (s0 : Int32) : Nat → MemL
  | 0 => ml
  | j + 1 =>
    k_ul (f_X7_rwL ml s0 j) (9, 1, 0) (((160 * s0) + (nI j)).toNatClampNeg) 0
theorem f_X7_rwL_s (ml : MemL) (s0 : Int32) (j : Nat) : f_X7_rwL ml s0 (j + 1) =
    k_ul (f_X7_rwL ml s0 j) (9, 1, 0) (((160 * s0) + (nI j)).toNatClampNeg) 0 := rfl
def f_X7_row (mi : MemI) (ml : MemL) (s0 : Int32) (so : Int32) (n : Int32) : Int32 × MemI × MemL :=
  if (f_X7_isShelf s0) = 0 then ((f_X7_no mi (-1)).1, (f_X7_no mi (-1)).2, ml)
  else if 0 ≤ n then if so < 0 then ((f_X7_no mi (-6)).1, (f_X7_no mi (-6)).2, ml)
      else if so ≤ 3 then if n ≤ 160 then (1, k_ui (k_ui (k_ui mi (8, 18, 0) s0.toNatClampNeg 1) (8, 19, 0) s0.toNatClampNeg so) (8, 20, 0) s0.toNatClampNeg n, f_X7_rwL ml s0 160)
          else ((f_X7_no mi (-7)).1, (f_X7_no mi (-7)).2, ml)
        else ((f_X7_no mi (-6)).1, (f_X7_no mi (-6)).2, ml)
    else ((f_X7_no mi (-4)).1, (f_X7_no mi (-4)).2, ml)
set_option maxRecDepth 100000 in
set_option maxHeartbeats 4000000 in
theorem ct_X7_row {mi : MemI} {ml : MemL} {s0 : Int32} {so : Int32} {n : Int32}  : k_Ct k_KS k_R0 Mt_X7_row 1 [vR (7, 0, 0), vI s0, vI so, vI n] mi ml (k_rt (some (vI (f_X7_row mi ml s0 so n).1)) (f_X7_row mi ml s0 so n).2.1 (f_X7_row mi ml s0 so n).2.2) := by
  refine k_ofV (L0 := [vR (7, 0, 0), vI s0, vI so, vI n, vU]) (by decide +kernel) (Nat.le_of_ble_eq_true rfl) rfl rfl ?_
  intro p l e s m args below meth c D cy ad bs C
  refine k_aload_n (pc := 0) C dX7_row_0 rfl ?_
  refine k_iload_n (pc := 1) C dX7_row_1 rfl ?_
  refine k_call1 (pc := 2) C cv_X7_135 ct_X7_isShelf k_in7 rfl (by decide) rfl (Nat.le_of_ble_eq_true rfl) dX7_row_2 ?_
  refine k_if_ne (pc := 5) C 14 dX7_row_5 (by decide) (fun c5 => ?_) (fun c5 => ?_)
  · skip
    have qc5 := isShelf_in c5
    refine k_iload_n (pc := 14) C dX7_row_14 rfl ?_
    refine k_if_ge (pc := 15) C 25 dX7_row_15 (by decide) (fun c15 => ?_) (fun c15 => ?_)
    · skip
      refine k_iload_n (pc := 25) C dX7_row_25 rfl ?_
      refine k_if_lt (pc := 26) C 34 dX7_row_26 (by decide) (fun c26 => ?_) (fun c26 => ?_)
      · skip
        refine k_aload_n (pc := 34) C dX7_row_34 rfl ?_
        refine k_bipush (pc := 35) (v := (-6)) C dX7_row_35 (by decide) ?_
        refine k_call1 (pc := 37) C cv_X7_139 (ct_X7_no (k_vd (by decide))) k_in7 rfl (by decide) rfl (Nat.le_of_ble_eq_true rfl) dX7_row_37 ?_
        exact k_iret (pc := 40) C rfl  (k_fIml (by unfold f_X7_row; rw [if_neg c5, if_pos c15, if_pos c26]; try rfl)) dX7_row_40
      · skip
        refine k_iload_n (pc := 29) C dX7_row_29 rfl ?_
        refine k_iconst (pc := 30) (v := 3) C dX7_row_30 (by decide) ?_
        refine k_icmp_le (pc := 31) C 41 dX7_row_31 (by decide) (fun c31 => ?_) (fun c31 => ?_)
        · skip
          refine k_iload_n (pc := 41) C dX7_row_41 rfl ?_
          refine k_sipush (pc := 42) (v := 160) C dX7_row_42 (by decide) ?_
          refine k_icmp_le (pc := 45) C 55 dX7_row_45 (by decide) (fun c45 => ?_) (fun c45 => ?_)
          · skip
            refine k_aload_n (pc := 55) C dX7_row_55 rfl ?_
            refine k_getR (pc := 56) (r := some (8, 18, 0)) C fl_X7_56 k_in7 rfl rfl rfl dX7_row_56 ?_
            refine k_iload_n (pc := 59) C dX7_row_59 rfl ?_
            refine k_iconst (pc := 60) (v := 1) C dX7_row_60 (by decide) ?_
            refine k_iastX (pc := 61) (j := s0.toNatClampNeg) C rfl (by decide +kernel) rfl (by first | assumption | exact k_vin (N := 8) (n := 8) (by assumption) (by assumption) (by decide)) dX7_row_61 ?_
            refine k_aload_n (pc := 62) C dX7_row_62 rfl ?_
            refine k_getR (pc := 63) (r := some (8, 19, 0)) C fl_X7_59 k_in7 rfl rfl rfl dX7_row_63 ?_
            refine k_iload_n (pc := 66) C dX7_row_66 rfl ?_
            refine k_iload_n (pc := 67) C dX7_row_67 rfl ?_
            refine k_iastX (pc := 68) (j := s0.toNatClampNeg) C rfl (by decide +kernel) rfl (by first | assumption | exact k_vin (N := 8) (n := 8) (by assumption) (by assumption) (by decide)) dX7_row_68 ?_
            refine k_aload_n (pc := 69) C dX7_row_69 rfl ?_
            refine k_getR (pc := 70) (r := some (8, 20, 0)) C fl_X7_62 k_in7 rfl rfl rfl dX7_row_70 ?_
            refine k_iload_n (pc := 73) C dX7_row_73 rfl ?_
            refine k_iload_n (pc := 74) C dX7_row_74 rfl ?_
            refine k_iastX (pc := 75) (j := s0.toNatClampNeg) C rfl (by decide +kernel) rfl (by first | assumption | exact k_vin (N := 8) (n := 8) (by assumption) (by assumption) (by decide)) dX7_row_75 ?_
            refine k_iconst (pc := 76) (v := 0) C dX7_row_76 (by decide) ?_
            refine k_istore_4 (pc := 77) C dX7_row_77 rfl ?_
            refine k_cast (L' := [vR (7, 0, 0), vI s0, vI so, vI n, vI (nI 0)]) (mi' := k_ui (k_ui (k_ui mi (8, 18, 0) s0.toNatClampNeg 1) (8, 19, 0) s0.toNatClampNeg so) (8, 20, 0) s0.toNatClampNeg n) (ml' := f_X7_rwL ml s0 0) rfl rfl rfl ?_
            refine k_down (P := fun j => k_V p l e (k_rm 1) s m args below meth c D cy ad bs k_KS k_R0 0 0 (k_End below D cy ad bs k_KS k_R0 (k_rt (some (vI (f_X7_row mi ml s0 so n).1)) (f_X7_row mi ml s0 so n).2.1 (f_X7_row mi ml s0 so n).2.2) args s) (k_ui (k_ui (k_ui mi (8, 18, 0) s0.toNatClampNeg 1) (8, 19, 0) s0.toNatClampNeg so) (8, 20, 0) s0.toNatClampNeg n) (f_X7_rwL ml s0 j) 79 [vR (7, 0, 0), vI s0, vI so, vI n, vI (nI j)] []) 160 ?_ (fun j hj hk => ?_)
            · skip
              refine k_iload (pc := 79) C dX7_row_79 rfl ?_
              refine k_sipush (pc := 81) (v := 160) C dX7_row_81 (by decide) ?_
              refine k_icmp_geT (pc := 84) C 107 dX7_row_84 (by decide) (by decide) ?_
              refine k_iconst (pc := 107) (v := 1) C dX7_row_107 (by decide) ?_
              exact k_iret (pc := 108) C rfl  (k_fIml (by unfold f_X7_row; rw [if_neg c5, if_pos c15, if_neg c26, if_pos c31, if_pos c45]; try rfl)) dX7_row_108
            · skip
              try dsimp only at hk
              refine k_iload (pc := 79) C dX7_row_79 rfl ?_
              refine k_sipush (pc := 81) (v := 160) C dX7_row_81 (by decide) ?_
              refine k_icmp_geF (pc := 84) C 107 dX7_row_84 (by decide) (k_nge (n := 160) rfl (by decide) hj) ?_
              refine k_aload_n (pc := 87) C dX7_row_87 rfl ?_
              refine k_getR (pc := 88) (r := some (9, 1, 0)) C fl_X7_68 k_in7 rfl rfl rfl dX7_row_88 ?_
              refine k_sipush (pc := 91) (v := 160) C dX7_row_91 (by decide) ?_
              refine k_iload_n (pc := 94) C dX7_row_94 rfl ?_
              refine k_imul (pc := 95) C dX7_row_95 ?_
              refine k_iload (pc := 96) C dX7_row_96 rfl ?_
              refine k_iadd (pc := 98) C dX7_row_98 ?_
              refine k_lconst (pc := 99) (v := 0) C dX7_row_99 (by decide) ?_
              refine k_lastX (pc := 100) (j := ((160 * s0) + (nI j)).toNatClampNeg) C rfl (by decide +kernel) rfl (k_cellin (by assumption) (vp_in_nI (show j < 160 by omega) (by decide))).1 dX7_row_100 ?_
              refine k_iinc_4 (pc := 101) (v := nI (j + 1)) C dX7_row_101 (k_inc j) rfl ?_
              refine k_goto (pc := 104) C 79 dX7_row_104 (by decide) ?_
              exact k_cast rfl rfl (by rw [f_X7_rwL_s]) hk
          · skip
            refine k_aload_n (pc := 48) C dX7_row_48 rfl ?_
            refine k_bipush (pc := 49) (v := (-7)) C dX7_row_49 (by decide) ?_
            refine k_call1 (pc := 51) C cv_X7_139 (ct_X7_no (k_vd (by decide))) k_in7 rfl (by decide) rfl (Nat.le_of_ble_eq_true rfl) dX7_row_51 ?_
            exact k_iret (pc := 54) C rfl  (k_fIml (by unfold f_X7_row; rw [if_neg c5, if_pos c15, if_neg c26, if_pos c31, if_neg c45]; try rfl)) dX7_row_54
        · skip
          refine k_aload_n (pc := 34) C dX7_row_34 rfl ?_
          refine k_bipush (pc := 35) (v := (-6)) C dX7_row_35 (by decide) ?_
          refine k_call1 (pc := 37) C cv_X7_139 (ct_X7_no (k_vd (by decide))) k_in7 rfl (by decide) rfl (Nat.le_of_ble_eq_true rfl) dX7_row_37 ?_
          exact k_iret (pc := 40) C rfl  (k_fIml (by unfold f_X7_row; rw [if_neg c5, if_pos c15, if_neg c26, if_neg c31]; try rfl)) dX7_row_40
    · skip
      refine k_aload_n (pc := 18) C dX7_row_18 rfl ?_
      refine k_bipush (pc := 19) (v := (-4)) C dX7_row_19 (by decide) ?_
      refine k_call1 (pc := 21) C cv_X7_139 (ct_X7_no (k_vd (by decide))) k_in7 rfl (by decide) rfl (Nat.le_of_ble_eq_true rfl) dX7_row_21 ?_
      exact k_iret (pc := 24) C rfl  (k_fIml (by unfold f_X7_row; rw [if_neg c5, if_neg c15]; try rfl)) dX7_row_24
  · skip
    refine k_aload_n (pc := 8) C dX7_row_8 rfl ?_
    refine k_iconst (pc := 9) (v := (-1)) C dX7_row_9 (by decide) ?_
    refine k_call1 (pc := 10) C cv_X7_139 (ct_X7_no (k_vd (by decide))) k_in7 rfl (by decide) rfl (Nat.le_of_ble_eq_true rfl) dX7_row_10 ?_
    exact k_iret (pc := 13) C rfl  (k_fIml (by unfold f_X7_row; rw [if_pos c5]; try rfl)) dX7_row_13
def f_X7_cp2 (ml : MemL) (q0 : Int32) (y : Int32) : Nat → MemL
  | 0 => ml
  | j + 1 =>
    k_ul (f_X7_cp2 ml q0 y j) (9, 1, 0) ((((160 * q0) + y) + (nI j)).toNatClampNeg) ((f_X7_cp2 ml q0 y j) (9, 2, 0) j)
theorem f_X7_cp2_s (ml : MemL) (q0 : Int32) (y : Int32) (j : Nat) : f_X7_cp2 ml q0 y (j + 1) =
    k_ul (f_X7_cp2 ml q0 y j) (9, 1, 0) ((((160 * q0) + y) + (nI j)).toNatClampNeg) ((f_X7_cp2 ml q0 y j) (9, 2, 0) j) := rfl
def f_X7_cp1 (ml : MemL) (p0 : Int32) (x : Int32) : Nat → MemL
  | 0 => ml
  | j + 1 =>
    k_ul (f_X7_cp1 ml p0 x j) (9, 2, 0) j ((f_X7_cp1 ml p0 x j) (9, 1, 0) ((((160 * p0) + x) + (nI j)).toNatClampNeg))
theorem f_X7_cp1_s (ml : MemL) (p0 : Int32) (x : Int32) (j : Nat) : f_X7_cp1 ml p0 x (j + 1) =
    k_ul (f_X7_cp1 ml p0 x j) (9, 2, 0) j ((f_X7_cp1 ml p0 x j) (9, 1, 0) ((((160 * p0) + x) + (nI j)).toNatClampNeg)) := rfl
def f_X7_copy (mi : MemI) (ml : MemL) (p0 : Int32) (q0 : Int32) (x : Int32) (y : Int32) (n : Int32) : Int32 × MemI × MemL :=
  if (f_X7_isShelf p0) = 0 then ((f_X7_no mi (-1)).1, (f_X7_no mi (-1)).2, ml)
  else if (f_X7_isShelf q0) = 0 then ((f_X7_no mi (-1)).1, (f_X7_no mi (-1)).2, ml)
    else if (mi (8, 18, 0) p0.toNatClampNeg) = 2 then ((f_X7_no mi (-2)).1, (f_X7_no mi (-2)).2, ml)
      else if (mi (8, 18, 0) q0.toNatClampNeg) = 2 then ((f_X7_no mi (-2)).1, (f_X7_no mi (-2)).2, ml)
        else if (mi (8, 18, 0) p0.toNatClampNeg) = 1 then if (mi (8, 18, 0) q0.toNatClampNeg) = 1 then if (mi (8, 19, 0) p0.toNatClampNeg) = (mi (8, 19, 0) q0.toNatClampNeg) then if 0 ≤ n then if x < 0 then ((f_X7_no mi (-5)).1, (f_X7_no mi (-5)).2, ml)
                  else if y < 0 then ((f_X7_no mi (-5)).1, (f_X7_no mi (-5)).2, ml)
                    else if ((mi (8, 20, 0) p0.toNatClampNeg) - n) < x then ((f_X7_no mi (-5)).1, (f_X7_no mi (-5)).2, ml)
                      else if y ≤ ((mi (8, 20, 0) q0.toNatClampNeg) - n) then (1, mi, f_X7_cp2 (f_X7_cp1 ml p0 x n.toNatClampNeg) q0 y n.toNatClampNeg)
                        else ((f_X7_no mi (-5)).1, (f_X7_no mi (-5)).2, ml)
                else ((f_X7_no mi (-4)).1, (f_X7_no mi (-4)).2, ml)
              else ((f_X7_no mi (-2)).1, (f_X7_no mi (-2)).2, ml)
            else if (mi (8, 18, 0) q0.toNatClampNeg) = 0 then ((f_X7_no mi (-3)).1, (f_X7_no mi (-3)).2, ml)
              else if 0 ≤ n then if x < 0 then ((f_X7_no mi (-5)).1, (f_X7_no mi (-5)).2, ml)
                  else if y < 0 then ((f_X7_no mi (-5)).1, (f_X7_no mi (-5)).2, ml)
                    else if ((mi (8, 20, 0) p0.toNatClampNeg) - n) < x then ((f_X7_no mi (-5)).1, (f_X7_no mi (-5)).2, ml)
                      else if y ≤ ((mi (8, 20, 0) q0.toNatClampNeg) - n) then (1, mi, f_X7_cp2 (f_X7_cp1 ml p0 x n.toNatClampNeg) q0 y n.toNatClampNeg)
                        else ((f_X7_no mi (-5)).1, (f_X7_no mi (-5)).2, ml)
                else ((f_X7_no mi (-4)).1, (f_X7_no mi (-4)).2, ml)
          else if (mi (8, 18, 0) p0.toNatClampNeg) = 0 then ((f_X7_no mi (-3)).1, (f_X7_no mi (-3)).2, ml)
            else if (mi (8, 18, 0) q0.toNatClampNeg) = 0 then ((f_X7_no mi (-3)).1, (f_X7_no mi (-3)).2, ml)
              else if 0 ≤ n then if x < 0 then ((f_X7_no mi (-5)).1, (f_X7_no mi (-5)).2, ml)
                  else if y < 0 then ((f_X7_no mi (-5)).1, (f_X7_no mi (-5)).2, ml)
                    else if ((mi (8, 20, 0) p0.toNatClampNeg) - n) < x then ((f_X7_no mi (-5)).1, (f_X7_no mi (-5)).2, ml)
                      else if y ≤ ((mi (8, 20, 0) q0.toNatClampNeg) - n) then (1, mi, f_X7_cp2 (f_X7_cp1 ml p0 x n.toNatClampNeg) q0 y n.toNatClampNeg)
                        else ((f_X7_no mi (-5)).1, (f_X7_no mi (-5)).2, ml)
                else ((f_X7_no mi (-4)).1, (f_X7_no mi (-4)).2, ml)
set_option maxRecDepth 100000 in
set_option maxHeartbeats 4000000 in
theorem ct_X7_copy {mi : MemI} {ml : MemL} {p0 : Int32} {q0 : Int32} {x : Int32} {y : Int32} {n : Int32} (hsz : k_sz mi) : k_Ct k_KS k_R0 Mt_X7_copy 1 [vR (7, 0, 0), vI p0, vI q0, vI x, vI y, vI n] mi ml (k_rt (some (vI (f_X7_copy mi ml p0 q0 x y n).1)) (f_X7_copy mi ml p0 q0 x y n).2.1 (f_X7_copy mi ml p0 q0 x y n).2.2) := by
  refine k_ofV (L0 := [vR (7, 0, 0), vI p0, vI q0, vI x, vI y, vI n, vU]) (by decide +kernel) (Nat.le_of_ble_eq_true rfl) rfl rfl ?_
  intro p l e s m args below meth c D cy ad bs C
  refine k_aload_n (pc := 0) C dX7_copy_0 rfl ?_
  refine k_iload_n (pc := 1) C dX7_copy_1 rfl ?_
  refine k_call1 (pc := 2) C cv_X7_135 ct_X7_isShelf k_in7 rfl (by decide) rfl (Nat.le_of_ble_eq_true rfl) dX7_copy_2 ?_
  refine k_if_eq (pc := 5) C 16 dX7_copy_5 (by decide) (fun c5 => ?_) (fun c5 => ?_)
  · skip
    refine k_aload_n (pc := 16) C dX7_copy_16 rfl ?_
    refine k_iconst (pc := 17) (v := (-1)) C dX7_copy_17 (by decide) ?_
    refine k_call1 (pc := 18) C cv_X7_139 (ct_X7_no (k_vd (by decide))) k_in7 rfl (by decide) rfl (Nat.le_of_ble_eq_true rfl) dX7_copy_18 ?_
    exact k_iret (pc := 21) C rfl  (k_fIml (by unfold f_X7_copy; rw [if_pos c5]; try rfl)) dX7_copy_21
  · skip
    have qc5 := isShelf_in c5
    refine k_aload_n (pc := 8) C dX7_copy_8 rfl ?_
    refine k_iload_n (pc := 9) C dX7_copy_9 rfl ?_
    refine k_call1 (pc := 10) C cv_X7_135 ct_X7_isShelf k_in7 rfl (by decide) rfl (Nat.le_of_ble_eq_true rfl) dX7_copy_10 ?_
    refine k_if_ne (pc := 13) C 22 dX7_copy_13 (by decide) (fun c13 => ?_) (fun c13 => ?_)
    · skip
      have qc13 := isShelf_in c13
      refine k_aload_n (pc := 22) C dX7_copy_22 rfl ?_
      refine k_getR (pc := 23) (r := some (8, 18, 0)) C fl_X7_56 k_in7 rfl rfl rfl dX7_copy_23 ?_
      refine k_iload_n (pc := 26) C dX7_copy_26 rfl ?_
      refine k_ialdX (pc := 27) (j := p0.toNatClampNeg) C rfl (by decide +kernel) rfl (by first | assumption | exact k_vin (N := 8) (n := 8) (by assumption) (by assumption) (by decide)) dX7_copy_27 ?_
      refine k_iconst (pc := 28) (v := 2) C dX7_copy_28 (by decide) ?_
      refine k_icmp_eq (pc := 29) C 77 dX7_copy_29 (by decide) (fun c29 => ?_) (fun c29 => ?_)
      · skip
        refine k_aload_n (pc := 77) C dX7_copy_77 rfl ?_
        refine k_bipush (pc := 78) (v := (-2)) C dX7_copy_78 (by decide) ?_
        refine k_call1 (pc := 80) C cv_X7_139 (ct_X7_no (k_vd (by decide))) k_in7 rfl (by decide) rfl (Nat.le_of_ble_eq_true rfl) dX7_copy_80 ?_
        exact k_iret (pc := 83) C rfl  (k_fIml (by unfold f_X7_copy; rw [if_neg c5, if_neg c13, if_pos c29]; try rfl)) dX7_copy_83
      · skip
        refine k_aload_n (pc := 32) C dX7_copy_32 rfl ?_
        refine k_getR (pc := 33) (r := some (8, 18, 0)) C fl_X7_56 k_in7 rfl rfl rfl dX7_copy_33 ?_
        refine k_iload_n (pc := 36) C dX7_copy_36 rfl ?_
        refine k_ialdX (pc := 37) (j := q0.toNatClampNeg) C rfl (by decide +kernel) rfl (by first | assumption | exact k_vin (N := 8) (n := 8) (by assumption) (by assumption) (by decide)) dX7_copy_37 ?_
        refine k_iconst (pc := 38) (v := 2) C dX7_copy_38 (by decide) ?_
        refine k_icmp_eq (pc := 39) C 77 dX7_copy_39 (by decide) (fun c39 => ?_) (fun c39 => ?_)
        · skip
          refine k_aload_n (pc := 77) C dX7_copy_77 rfl ?_
          refine k_bipush (pc := 78) (v := (-2)) C dX7_copy_78 (by decide) ?_
          refine k_call1 (pc := 80) C cv_X7_139 (ct_X7_no (k_vd (by decide))) k_in7 rfl (by decide) rfl (Nat.le_of_ble_eq_true rfl) dX7_copy_80 ?_
          exact k_iret (pc := 83) C rfl  (k_fIml (by unfold f_X7_copy; rw [if_neg c5, if_neg c13, if_neg c29, if_pos c39]; try rfl)) dX7_copy_83
        · skip
          refine k_aload_n (pc := 42) C dX7_copy_42 rfl ?_
          refine k_getR (pc := 43) (r := some (8, 18, 0)) C fl_X7_56 k_in7 rfl rfl rfl dX7_copy_43 ?_
          refine k_iload_n (pc := 46) C dX7_copy_46 rfl ?_
          refine k_ialdX (pc := 47) (j := p0.toNatClampNeg) C rfl (by decide +kernel) rfl (by first | assumption | exact k_vin (N := 8) (n := 8) (by assumption) (by assumption) (by decide)) dX7_copy_47 ?_
          refine k_iconst (pc := 48) (v := 1) C dX7_copy_48 (by decide) ?_
          refine k_icmp_ne (pc := 49) C 84 dX7_copy_49 (by decide) (fun c49 => ?_) (fun c49 => ?_)
          · skip
            refine k_aload_n (pc := 84) C dX7_copy_84 rfl ?_
            refine k_getR (pc := 85) (r := some (8, 18, 0)) C fl_X7_56 k_in7 rfl rfl rfl dX7_copy_85 ?_
            refine k_iload_n (pc := 88) C dX7_copy_88 rfl ?_
            refine k_ialdX (pc := 89) (j := p0.toNatClampNeg) C rfl (by decide +kernel) rfl (by first | assumption | exact k_vin (N := 8) (n := 8) (by assumption) (by assumption) (by decide)) dX7_copy_89 ?_
            refine k_if_eq (pc := 90) C 102 dX7_copy_90 (by decide) (fun c90 => ?_) (fun c90 => ?_)
            · skip
              refine k_aload_n (pc := 102) C dX7_copy_102 rfl ?_
              refine k_bipush (pc := 103) (v := (-3)) C dX7_copy_103 (by decide) ?_
              refine k_call1 (pc := 105) C cv_X7_139 (ct_X7_no (k_vd (by decide))) k_in7 rfl (by decide) rfl (Nat.le_of_ble_eq_true rfl) dX7_copy_105 ?_
              exact k_iret (pc := 108) C rfl  (k_fIml (by unfold f_X7_copy; rw [if_neg c5, if_neg c13, if_neg c29, if_neg c39, if_neg c49, if_pos c90]; try rfl)) dX7_copy_108
            · skip
              refine k_aload_n (pc := 93) C dX7_copy_93 rfl ?_
              refine k_getR (pc := 94) (r := some (8, 18, 0)) C fl_X7_56 k_in7 rfl rfl rfl dX7_copy_94 ?_
              refine k_iload_n (pc := 97) C dX7_copy_97 rfl ?_
              refine k_ialdX (pc := 98) (j := q0.toNatClampNeg) C rfl (by decide +kernel) rfl (by first | assumption | exact k_vin (N := 8) (n := 8) (by assumption) (by assumption) (by decide)) dX7_copy_98 ?_
              refine k_if_ne (pc := 99) C 109 dX7_copy_99 (by decide) (fun c99 => ?_) (fun c99 => ?_)
              · skip
                refine k_iload (pc := 109) C dX7_copy_109 rfl ?_
                refine k_if_ge (pc := 111) C 121 dX7_copy_111 (by decide) (fun c111 => ?_) (fun c111 => ?_)
                · skip
                  refine k_iload_n (pc := 121) C dX7_copy_121 rfl ?_
                  refine k_if_lt (pc := 122) C 157 dX7_copy_122 (by decide) (fun c122 => ?_) (fun c122 => ?_)
                  · skip
                    refine k_aload_n (pc := 157) C dX7_copy_157 rfl ?_
                    refine k_bipush (pc := 158) (v := (-5)) C dX7_copy_158 (by decide) ?_
                    refine k_call1 (pc := 160) C cv_X7_139 (ct_X7_no (k_vd (by decide))) k_in7 rfl (by decide) rfl (Nat.le_of_ble_eq_true rfl) dX7_copy_160 ?_
                    exact k_iret (pc := 163) C rfl  (k_fIml (by unfold f_X7_copy; rw [if_neg c5, if_neg c13, if_neg c29, if_neg c39, if_neg c49, if_neg c90, if_neg c99, if_pos c111, if_pos c122]; try rfl)) dX7_copy_163
                  · skip
                    refine k_iload (pc := 125) C dX7_copy_125 rfl ?_
                    refine k_if_lt (pc := 127) C 157 dX7_copy_127 (by decide) (fun c127 => ?_) (fun c127 => ?_)
                    · skip
                      refine k_aload_n (pc := 157) C dX7_copy_157 rfl ?_
                      refine k_bipush (pc := 158) (v := (-5)) C dX7_copy_158 (by decide) ?_
                      refine k_call1 (pc := 160) C cv_X7_139 (ct_X7_no (k_vd (by decide))) k_in7 rfl (by decide) rfl (Nat.le_of_ble_eq_true rfl) dX7_copy_160 ?_
                      exact k_iret (pc := 163) C rfl  (k_fIml (by unfold f_X7_copy; rw [if_neg c5, if_neg c13, if_neg c29, if_neg c39, if_neg c49, if_neg c90, if_neg c99, if_pos c111, if_neg c122, if_pos c127]; try rfl)) dX7_copy_163
                    · skip
                      refine k_iload_n (pc := 130) C dX7_copy_130 rfl ?_
                      refine k_aload_n (pc := 131) C dX7_copy_131 rfl ?_
                      refine k_getR (pc := 132) (r := some (8, 20, 0)) C fl_X7_62 k_in7 rfl rfl rfl dX7_copy_132 ?_
                      refine k_iload_n (pc := 135) C dX7_copy_135 rfl ?_
                      refine k_ialdX (pc := 136) (j := p0.toNatClampNeg) C rfl (by decide +kernel) rfl (by first | assumption | exact k_vin (N := 8) (n := 8) (by assumption) (by assumption) (by decide)) dX7_copy_136 ?_
                      refine k_iload (pc := 137) C dX7_copy_137 rfl ?_
                      refine k_isub (pc := 139) C dX7_copy_139 ?_
                      refine k_icmp_gt (pc := 140) C 157 dX7_copy_140 (by decide) (fun c140 => ?_) (fun c140 => ?_)
                      · skip
                        refine k_aload_n (pc := 157) C dX7_copy_157 rfl ?_
                        refine k_bipush (pc := 158) (v := (-5)) C dX7_copy_158 (by decide) ?_
                        refine k_call1 (pc := 160) C cv_X7_139 (ct_X7_no (k_vd (by decide))) k_in7 rfl (by decide) rfl (Nat.le_of_ble_eq_true rfl) dX7_copy_160 ?_
                        exact k_iret (pc := 163) C rfl  (k_fIml (by unfold f_X7_copy; rw [if_neg c5, if_neg c13, if_neg c29, if_neg c39, if_neg c49, if_neg c90, if_neg c99, if_pos c111, if_neg c122, if_neg c127, if_pos c140]; try rfl)) dX7_copy_163
                      · skip
                        refine k_iload (pc := 143) C dX7_copy_143 rfl ?_
                        refine k_aload_n (pc := 145) C dX7_copy_145 rfl ?_
                        refine k_getR (pc := 146) (r := some (8, 20, 0)) C fl_X7_62 k_in7 rfl rfl rfl dX7_copy_146 ?_
                        refine k_iload_n (pc := 149) C dX7_copy_149 rfl ?_
                        refine k_ialdX (pc := 150) (j := q0.toNatClampNeg) C rfl (by decide +kernel) rfl (by first | assumption | exact k_vin (N := 8) (n := 8) (by assumption) (by assumption) (by decide)) dX7_copy_150 ?_
                        refine k_iload (pc := 151) C dX7_copy_151 rfl ?_
                        refine k_isub (pc := 153) C dX7_copy_153 ?_
                        refine k_icmp_le (pc := 154) C 164 dX7_copy_154 (by decide) (fun c154 => ?_) (fun c154 => ?_)
                        · skip
                          have hp8 : vp_in p0 8 := by assumption
                          have hq8 : vp_in q0 8 := by assumption
                          have hn0 : ¬ n < 0 := Int32.not_lt.mpr c111
                          have hx0 : ¬ x < 0 := c122
                          have hy0 : ¬ y < 0 := c127
                          have hbx := k_cpb hsz (k_clamp hp8) hx0 hn0 (Int32.not_lt.mp c140)
                          have hby := k_cpb hsz (k_clamp hq8) hy0 hn0 c154
                          refine k_iconst (pc := 164) (v := 0) C dX7_copy_164 (by decide) ?_
                          refine k_istore_6 (pc := 165) C dX7_copy_165 rfl ?_
                          refine k_cast (L' := [vR (7, 0, 0), vI p0, vI q0, vI x, vI y, vI n, vI (nI 0)]) (mi' := mi) (ml' := f_X7_cp1 ml p0 x 0) rfl rfl rfl ?_
                          refine k_down (P := fun j => k_V p l e (k_rm 1) s m args below meth c D cy ad bs k_KS k_R0 0 0 (k_End below D cy ad bs k_KS k_R0 (k_rt (some (vI (f_X7_copy mi ml p0 q0 x y n).1)) (f_X7_copy mi ml p0 q0 x y n).2.1 (f_X7_copy mi ml p0 q0 x y n).2.2) args s) mi (f_X7_cp1 ml p0 x j) 167 [vR (7, 0, 0), vI p0, vI q0, vI x, vI y, vI n, vI (nI j)] []) n.toNatClampNeg ?_ (fun j hj hk => ?_)
                          · skip
                            refine k_iload (pc := 167) C dX7_copy_167 rfl ?_
                            refine k_iload (pc := 169) C dX7_copy_169 rfl ?_
                            refine k_icmp_geT (pc := 171) C 202 dX7_copy_171 (by decide) (k_leN hn0) ?_
                            refine k_iconst (pc := 202) (v := 0) C dX7_copy_202 (by decide) ?_
                            refine k_istore_6 (pc := 203) C dX7_copy_203 rfl ?_
                            refine k_cast (L' := [vR (7, 0, 0), vI p0, vI q0, vI x, vI y, vI n, vI (nI 0)]) (mi' := mi) (ml' := f_X7_cp2 (f_X7_cp1 ml p0 x n.toNatClampNeg) q0 y 0) rfl rfl rfl ?_
                            refine k_down (P := fun j => k_V p l e (k_rm 1) s m args below meth c D cy ad bs k_KS k_R0 0 0 (k_End below D cy ad bs k_KS k_R0 (k_rt (some (vI (f_X7_copy mi ml p0 q0 x y n).1)) (f_X7_copy mi ml p0 q0 x y n).2.1 (f_X7_copy mi ml p0 q0 x y n).2.2) args s) mi (f_X7_cp2 (f_X7_cp1 ml p0 x n.toNatClampNeg) q0 y j) 205 [vR (7, 0, 0), vI p0, vI q0, vI x, vI y, vI n, vI (nI j)] []) n.toNatClampNeg ?_ (fun j hj hk => ?_)
                            · skip
                              refine k_iload (pc := 205) C dX7_copy_205 rfl ?_
                              refine k_iload (pc := 207) C dX7_copy_207 rfl ?_
                              refine k_icmp_geT (pc := 209) C 241 dX7_copy_209 (by decide) (k_leN hn0) ?_
                              refine k_iconst (pc := 241) (v := 1) C dX7_copy_241 (by decide) ?_
                              exact k_iret (pc := 242) C rfl  (k_fIml (by unfold f_X7_copy; rw [if_neg c5, if_neg c13, if_neg c29, if_neg c39, if_neg c49, if_neg c90, if_neg c99, if_pos c111, if_neg c122, if_neg c127, if_neg c140, if_pos c154]; try rfl)) dX7_copy_242
                            · skip
                              try dsimp only at hk
                              refine k_iload (pc := 205) C dX7_copy_205 rfl ?_
                              refine k_iload (pc := 207) C dX7_copy_207 rfl ?_
                              refine k_icmp_geF (pc := 209) C 241 dX7_copy_209 (by decide) (k_ngeN hn0 hj) ?_
                              refine k_aload_n (pc := 212) C dX7_copy_212 rfl ?_
                              refine k_getR (pc := 213) (r := some (9, 1, 0)) C fl_X7_68 k_in7 rfl rfl rfl dX7_copy_213 ?_
                              refine k_sipush (pc := 216) (v := 160) C dX7_copy_216 (by decide) ?_
                              refine k_iload_n (pc := 219) C dX7_copy_219 rfl ?_
                              refine k_imul (pc := 220) C dX7_copy_220 ?_
                              refine k_iload (pc := 221) C dX7_copy_221 rfl ?_
                              refine k_iadd (pc := 223) C dX7_copy_223 ?_
                              refine k_iload (pc := 224) C dX7_copy_224 rfl ?_
                              refine k_iadd (pc := 226) C dX7_copy_226 ?_
                              refine k_aload_n (pc := 227) C dX7_copy_227 rfl ?_
                              refine k_getR (pc := 228) (r := some (9, 2, 0)) C fl_X7_72 k_in7 rfl rfl rfl dX7_copy_228 ?_
                              refine k_iload (pc := 231) C dX7_copy_231 rfl ?_
                              refine k_laldX (pc := 233) (j := j) C (nI_clamp (by omega)) (by decide +kernel) rfl (vp_in_nI (show _ < (160 : Nat) by omega) (show (160 : Nat) < 2 ^ 31 by decide)) dX7_copy_233 ?_
                              refine k_lastX (pc := 234) (j := (((160 * q0) + y) + (nI j)).toNatClampNeg) C rfl (by decide +kernel) rfl (k_cellin3 hq8 hy0 (show y.toNatClampNeg + j < 160 by omega)).1 dX7_copy_234 ?_
                              refine k_iinc_6 (pc := 235) (v := nI (j + 1)) C dX7_copy_235 (k_inc j) rfl ?_
                              refine k_goto (pc := 238) C 205 dX7_copy_238 (by decide) ?_
                              exact k_cast rfl rfl (by rw [f_X7_cp2_s]) hk
                          · skip
                            try dsimp only at hk
                            refine k_iload (pc := 167) C dX7_copy_167 rfl ?_
                            refine k_iload (pc := 169) C dX7_copy_169 rfl ?_
                            refine k_icmp_geF (pc := 171) C 202 dX7_copy_171 (by decide) (k_ngeN hn0 hj) ?_
                            refine k_aload_n (pc := 174) C dX7_copy_174 rfl ?_
                            refine k_getR (pc := 175) (r := some (9, 2, 0)) C fl_X7_72 k_in7 rfl rfl rfl dX7_copy_175 ?_
                            refine k_iload (pc := 178) C dX7_copy_178 rfl ?_
                            refine k_aload_n (pc := 180) C dX7_copy_180 rfl ?_
                            refine k_getR (pc := 181) (r := some (9, 1, 0)) C fl_X7_68 k_in7 rfl rfl rfl dX7_copy_181 ?_
                            refine k_sipush (pc := 184) (v := 160) C dX7_copy_184 (by decide) ?_
                            refine k_iload_n (pc := 187) C dX7_copy_187 rfl ?_
                            refine k_imul (pc := 188) C dX7_copy_188 ?_
                            refine k_iload_n (pc := 189) C dX7_copy_189 rfl ?_
                            refine k_iadd (pc := 190) C dX7_copy_190 ?_
                            refine k_iload (pc := 191) C dX7_copy_191 rfl ?_
                            refine k_iadd (pc := 193) C dX7_copy_193 ?_
                            refine k_laldX (pc := 194) (j := (((160 * p0) + x) + (nI j)).toNatClampNeg) C rfl (by decide +kernel) rfl (k_cellin3 hp8 hx0 (show x.toNatClampNeg + j < 160 by omega)).1 dX7_copy_194 ?_
                            refine k_lastX (pc := 195) (j := j) C (nI_clamp (by omega)) (by decide +kernel) rfl (vp_in_nI (show _ < (160 : Nat) by omega) (show (160 : Nat) < 2 ^ 31 by decide)) dX7_copy_195 ?_
                            refine k_iinc_6 (pc := 196) (v := nI (j + 1)) C dX7_copy_196 (k_inc j) rfl ?_
                            refine k_goto (pc := 199) C 167 dX7_copy_199 (by decide) ?_
                            exact k_cast rfl rfl (by rw [f_X7_cp1_s]) hk
                        · skip
                          refine k_aload_n (pc := 157) C dX7_copy_157 rfl ?_
                          refine k_bipush (pc := 158) (v := (-5)) C dX7_copy_158 (by decide) ?_
                          refine k_call1 (pc := 160) C cv_X7_139 (ct_X7_no (k_vd (by decide))) k_in7 rfl (by decide) rfl (Nat.le_of_ble_eq_true rfl) dX7_copy_160 ?_
                          exact k_iret (pc := 163) C rfl  (k_fIml (by unfold f_X7_copy; rw [if_neg c5, if_neg c13, if_neg c29, if_neg c39, if_neg c49, if_neg c90, if_neg c99, if_pos c111, if_neg c122, if_neg c127, if_neg c140, if_neg c154]; try rfl)) dX7_copy_163
                · skip
                  refine k_aload_n (pc := 114) C dX7_copy_114 rfl ?_
                  refine k_bipush (pc := 115) (v := (-4)) C dX7_copy_115 (by decide) ?_
                  refine k_call1 (pc := 117) C cv_X7_139 (ct_X7_no (k_vd (by decide))) k_in7 rfl (by decide) rfl (Nat.le_of_ble_eq_true rfl) dX7_copy_117 ?_
                  exact k_iret (pc := 120) C rfl  (k_fIml (by unfold f_X7_copy; rw [if_neg c5, if_neg c13, if_neg c29, if_neg c39, if_neg c49, if_neg c90, if_neg c99, if_neg c111]; try rfl)) dX7_copy_120
              · skip
                refine k_aload_n (pc := 102) C dX7_copy_102 rfl ?_
                refine k_bipush (pc := 103) (v := (-3)) C dX7_copy_103 (by decide) ?_
                refine k_call1 (pc := 105) C cv_X7_139 (ct_X7_no (k_vd (by decide))) k_in7 rfl (by decide) rfl (Nat.le_of_ble_eq_true rfl) dX7_copy_105 ?_
                exact k_iret (pc := 108) C rfl  (k_fIml (by unfold f_X7_copy; rw [if_neg c5, if_neg c13, if_neg c29, if_neg c39, if_neg c49, if_neg c90, if_pos c99]; try rfl)) dX7_copy_108
          · skip
            refine k_aload_n (pc := 52) C dX7_copy_52 rfl ?_
            refine k_getR (pc := 53) (r := some (8, 18, 0)) C fl_X7_56 k_in7 rfl rfl rfl dX7_copy_53 ?_
            refine k_iload_n (pc := 56) C dX7_copy_56 rfl ?_
            refine k_ialdX (pc := 57) (j := q0.toNatClampNeg) C rfl (by decide +kernel) rfl (by first | assumption | exact k_vin (N := 8) (n := 8) (by assumption) (by assumption) (by decide)) dX7_copy_57 ?_
            refine k_iconst (pc := 58) (v := 1) C dX7_copy_58 (by decide) ?_
            refine k_icmp_ne (pc := 59) C 84 dX7_copy_59 (by decide) (fun c59 => ?_) (fun c59 => ?_)
            · skip
              refine k_aload_n (pc := 84) C dX7_copy_84 rfl ?_
              refine k_getR (pc := 85) (r := some (8, 18, 0)) C fl_X7_56 k_in7 rfl rfl rfl dX7_copy_85 ?_
              refine k_iload_n (pc := 88) C dX7_copy_88 rfl ?_
              refine k_ialdX (pc := 89) (j := p0.toNatClampNeg) C rfl (by decide +kernel) rfl (by first | assumption | exact k_vin (N := 8) (n := 8) (by assumption) (by assumption) (by decide)) dX7_copy_89 ?_
              refine k_if_eqF (pc := 90) C 102 dX7_copy_90 (by decide) (by rw [c49]; decide) ?_
              refine k_aload_n (pc := 93) C dX7_copy_93 rfl ?_
              refine k_getR (pc := 94) (r := some (8, 18, 0)) C fl_X7_56 k_in7 rfl rfl rfl dX7_copy_94 ?_
              refine k_iload_n (pc := 97) C dX7_copy_97 rfl ?_
              refine k_ialdX (pc := 98) (j := q0.toNatClampNeg) C rfl (by decide +kernel) rfl (by first | assumption | exact k_vin (N := 8) (n := 8) (by assumption) (by assumption) (by decide)) dX7_copy_98 ?_
              refine k_if_ne (pc := 99) C 109 dX7_copy_99 (by decide) (fun c99 => ?_) (fun c99 => ?_)
              · skip
                refine k_iload (pc := 109) C dX7_copy_109 rfl ?_
                refine k_if_ge (pc := 111) C 121 dX7_copy_111 (by decide) (fun c111 => ?_) (fun c111 => ?_)
                · skip
                  refine k_iload_n (pc := 121) C dX7_copy_121 rfl ?_
                  refine k_if_lt (pc := 122) C 157 dX7_copy_122 (by decide) (fun c122 => ?_) (fun c122 => ?_)
                  · skip
                    refine k_aload_n (pc := 157) C dX7_copy_157 rfl ?_
                    refine k_bipush (pc := 158) (v := (-5)) C dX7_copy_158 (by decide) ?_
                    refine k_call1 (pc := 160) C cv_X7_139 (ct_X7_no (k_vd (by decide))) k_in7 rfl (by decide) rfl (Nat.le_of_ble_eq_true rfl) dX7_copy_160 ?_
                    exact k_iret (pc := 163) C rfl  (k_fIml (by unfold f_X7_copy; rw [if_neg c5, if_neg c13, if_neg c29, if_neg c39, if_pos c49, if_neg c59, if_neg c99, if_pos c111, if_pos c122]; try rfl)) dX7_copy_163
                  · skip
                    refine k_iload (pc := 125) C dX7_copy_125 rfl ?_
                    refine k_if_lt (pc := 127) C 157 dX7_copy_127 (by decide) (fun c127 => ?_) (fun c127 => ?_)
                    · skip
                      refine k_aload_n (pc := 157) C dX7_copy_157 rfl ?_
                      refine k_bipush (pc := 158) (v := (-5)) C dX7_copy_158 (by decide) ?_
                      refine k_call1 (pc := 160) C cv_X7_139 (ct_X7_no (k_vd (by decide))) k_in7 rfl (by decide) rfl (Nat.le_of_ble_eq_true rfl) dX7_copy_160 ?_
                      exact k_iret (pc := 163) C rfl  (k_fIml (by unfold f_X7_copy; rw [if_neg c5, if_neg c13, if_neg c29, if_neg c39, if_pos c49, if_neg c59, if_neg c99, if_pos c111, if_neg c122, if_pos c127]; try rfl)) dX7_copy_163
                    · skip
                      refine k_iload_n (pc := 130) C dX7_copy_130 rfl ?_
                      refine k_aload_n (pc := 131) C dX7_copy_131 rfl ?_
                      refine k_getR (pc := 132) (r := some (8, 20, 0)) C fl_X7_62 k_in7 rfl rfl rfl dX7_copy_132 ?_
                      refine k_iload_n (pc := 135) C dX7_copy_135 rfl ?_
                      refine k_ialdX (pc := 136) (j := p0.toNatClampNeg) C rfl (by decide +kernel) rfl (by first | assumption | exact k_vin (N := 8) (n := 8) (by assumption) (by assumption) (by decide)) dX7_copy_136 ?_
                      refine k_iload (pc := 137) C dX7_copy_137 rfl ?_
                      refine k_isub (pc := 139) C dX7_copy_139 ?_
                      refine k_icmp_gt (pc := 140) C 157 dX7_copy_140 (by decide) (fun c140 => ?_) (fun c140 => ?_)
                      · skip
                        refine k_aload_n (pc := 157) C dX7_copy_157 rfl ?_
                        refine k_bipush (pc := 158) (v := (-5)) C dX7_copy_158 (by decide) ?_
                        refine k_call1 (pc := 160) C cv_X7_139 (ct_X7_no (k_vd (by decide))) k_in7 rfl (by decide) rfl (Nat.le_of_ble_eq_true rfl) dX7_copy_160 ?_
                        exact k_iret (pc := 163) C rfl  (k_fIml (by unfold f_X7_copy; rw [if_neg c5, if_neg c13, if_neg c29, if_neg c39, if_pos c49, if_neg c59, if_neg c99, if_pos c111, if_neg c122, if_neg c127, if_pos c140]; try rfl)) dX7_copy_163
                      · skip
                        refine k_iload (pc := 143) C dX7_copy_143 rfl ?_
                        refine k_aload_n (pc := 145) C dX7_copy_145 rfl ?_
                        refine k_getR (pc := 146) (r := some (8, 20, 0)) C fl_X7_62 k_in7 rfl rfl rfl dX7_copy_146 ?_
                        refine k_iload_n (pc := 149) C dX7_copy_149 rfl ?_
                        refine k_ialdX (pc := 150) (j := q0.toNatClampNeg) C rfl (by decide +kernel) rfl (by first | assumption | exact k_vin (N := 8) (n := 8) (by assumption) (by assumption) (by decide)) dX7_copy_150 ?_
                        refine k_iload (pc := 151) C dX7_copy_151 rfl ?_
                        refine k_isub (pc := 153) C dX7_copy_153 ?_
                        refine k_icmp_le (pc := 154) C 164 dX7_copy_154 (by decide) (fun c154 => ?_) (fun c154 => ?_)
                        · skip
                          have hp8 : vp_in p0 8 := by assumption
                          have hq8 : vp_in q0 8 := by assumption
                          have hn0 : ¬ n < 0 := Int32.not_lt.mpr c111
                          have hx0 : ¬ x < 0 := c122
                          have hy0 : ¬ y < 0 := c127
                          have hbx := k_cpb hsz (k_clamp hp8) hx0 hn0 (Int32.not_lt.mp c140)
                          have hby := k_cpb hsz (k_clamp hq8) hy0 hn0 c154
                          refine k_iconst (pc := 164) (v := 0) C dX7_copy_164 (by decide) ?_
                          refine k_istore_6 (pc := 165) C dX7_copy_165 rfl ?_
                          refine k_cast (L' := [vR (7, 0, 0), vI p0, vI q0, vI x, vI y, vI n, vI (nI 0)]) (mi' := mi) (ml' := f_X7_cp1 ml p0 x 0) rfl rfl rfl ?_
                          refine k_down (P := fun j => k_V p l e (k_rm 1) s m args below meth c D cy ad bs k_KS k_R0 0 0 (k_End below D cy ad bs k_KS k_R0 (k_rt (some (vI (f_X7_copy mi ml p0 q0 x y n).1)) (f_X7_copy mi ml p0 q0 x y n).2.1 (f_X7_copy mi ml p0 q0 x y n).2.2) args s) mi (f_X7_cp1 ml p0 x j) 167 [vR (7, 0, 0), vI p0, vI q0, vI x, vI y, vI n, vI (nI j)] []) n.toNatClampNeg ?_ (fun j hj hk => ?_)
                          · skip
                            refine k_iload (pc := 167) C dX7_copy_167 rfl ?_
                            refine k_iload (pc := 169) C dX7_copy_169 rfl ?_
                            refine k_icmp_geT (pc := 171) C 202 dX7_copy_171 (by decide) (k_leN hn0) ?_
                            refine k_iconst (pc := 202) (v := 0) C dX7_copy_202 (by decide) ?_
                            refine k_istore_6 (pc := 203) C dX7_copy_203 rfl ?_
                            refine k_cast (L' := [vR (7, 0, 0), vI p0, vI q0, vI x, vI y, vI n, vI (nI 0)]) (mi' := mi) (ml' := f_X7_cp2 (f_X7_cp1 ml p0 x n.toNatClampNeg) q0 y 0) rfl rfl rfl ?_
                            refine k_down (P := fun j => k_V p l e (k_rm 1) s m args below meth c D cy ad bs k_KS k_R0 0 0 (k_End below D cy ad bs k_KS k_R0 (k_rt (some (vI (f_X7_copy mi ml p0 q0 x y n).1)) (f_X7_copy mi ml p0 q0 x y n).2.1 (f_X7_copy mi ml p0 q0 x y n).2.2) args s) mi (f_X7_cp2 (f_X7_cp1 ml p0 x n.toNatClampNeg) q0 y j) 205 [vR (7, 0, 0), vI p0, vI q0, vI x, vI y, vI n, vI (nI j)] []) n.toNatClampNeg ?_ (fun j hj hk => ?_)
                            · skip
                              refine k_iload (pc := 205) C dX7_copy_205 rfl ?_
                              refine k_iload (pc := 207) C dX7_copy_207 rfl ?_
                              refine k_icmp_geT (pc := 209) C 241 dX7_copy_209 (by decide) (k_leN hn0) ?_
                              refine k_iconst (pc := 241) (v := 1) C dX7_copy_241 (by decide) ?_
                              exact k_iret (pc := 242) C rfl  (k_fIml (by unfold f_X7_copy; rw [if_neg c5, if_neg c13, if_neg c29, if_neg c39, if_pos c49, if_neg c59, if_neg c99, if_pos c111, if_neg c122, if_neg c127, if_neg c140, if_pos c154]; try rfl)) dX7_copy_242
                            · skip
                              try dsimp only at hk
                              refine k_iload (pc := 205) C dX7_copy_205 rfl ?_
                              refine k_iload (pc := 207) C dX7_copy_207 rfl ?_
                              refine k_icmp_geF (pc := 209) C 241 dX7_copy_209 (by decide) (k_ngeN hn0 hj) ?_
                              refine k_aload_n (pc := 212) C dX7_copy_212 rfl ?_
                              refine k_getR (pc := 213) (r := some (9, 1, 0)) C fl_X7_68 k_in7 rfl rfl rfl dX7_copy_213 ?_
                              refine k_sipush (pc := 216) (v := 160) C dX7_copy_216 (by decide) ?_
                              refine k_iload_n (pc := 219) C dX7_copy_219 rfl ?_
                              refine k_imul (pc := 220) C dX7_copy_220 ?_
                              refine k_iload (pc := 221) C dX7_copy_221 rfl ?_
                              refine k_iadd (pc := 223) C dX7_copy_223 ?_
                              refine k_iload (pc := 224) C dX7_copy_224 rfl ?_
                              refine k_iadd (pc := 226) C dX7_copy_226 ?_
                              refine k_aload_n (pc := 227) C dX7_copy_227 rfl ?_
                              refine k_getR (pc := 228) (r := some (9, 2, 0)) C fl_X7_72 k_in7 rfl rfl rfl dX7_copy_228 ?_
                              refine k_iload (pc := 231) C dX7_copy_231 rfl ?_
                              refine k_laldX (pc := 233) (j := j) C (nI_clamp (by omega)) (by decide +kernel) rfl (vp_in_nI (show _ < (160 : Nat) by omega) (show (160 : Nat) < 2 ^ 31 by decide)) dX7_copy_233 ?_
                              refine k_lastX (pc := 234) (j := (((160 * q0) + y) + (nI j)).toNatClampNeg) C rfl (by decide +kernel) rfl (k_cellin3 hq8 hy0 (show y.toNatClampNeg + j < 160 by omega)).1 dX7_copy_234 ?_
                              refine k_iinc_6 (pc := 235) (v := nI (j + 1)) C dX7_copy_235 (k_inc j) rfl ?_
                              refine k_goto (pc := 238) C 205 dX7_copy_238 (by decide) ?_
                              exact k_cast rfl rfl (by rw [f_X7_cp2_s]) hk
                          · skip
                            try dsimp only at hk
                            refine k_iload (pc := 167) C dX7_copy_167 rfl ?_
                            refine k_iload (pc := 169) C dX7_copy_169 rfl ?_
                            refine k_icmp_geF (pc := 171) C 202 dX7_copy_171 (by decide) (k_ngeN hn0 hj) ?_
                            refine k_aload_n (pc := 174) C dX7_copy_174 rfl ?_
                            refine k_getR (pc := 175) (r := some (9, 2, 0)) C fl_X7_72 k_in7 rfl rfl rfl dX7_copy_175 ?_
                            refine k_iload (pc := 178) C dX7_copy_178 rfl ?_
                            refine k_aload_n (pc := 180) C dX7_copy_180 rfl ?_
                            refine k_getR (pc := 181) (r := some (9, 1, 0)) C fl_X7_68 k_in7 rfl rfl rfl dX7_copy_181 ?_
                            refine k_sipush (pc := 184) (v := 160) C dX7_copy_184 (by decide) ?_
                            refine k_iload_n (pc := 187) C dX7_copy_187 rfl ?_
                            refine k_imul (pc := 188) C dX7_copy_188 ?_
                            refine k_iload_n (pc := 189) C dX7_copy_189 rfl ?_
                            refine k_iadd (pc := 190) C dX7_copy_190 ?_
                            refine k_iload (pc := 191) C dX7_copy_191 rfl ?_
                            refine k_iadd (pc := 193) C dX7_copy_193 ?_
                            refine k_laldX (pc := 194) (j := (((160 * p0) + x) + (nI j)).toNatClampNeg) C rfl (by decide +kernel) rfl (k_cellin3 hp8 hx0 (show x.toNatClampNeg + j < 160 by omega)).1 dX7_copy_194 ?_
                            refine k_lastX (pc := 195) (j := j) C (nI_clamp (by omega)) (by decide +kernel) rfl (vp_in_nI (show _ < (160 : Nat) by omega) (show (160 : Nat) < 2 ^ 31 by decide)) dX7_copy_195 ?_
                            refine k_iinc_6 (pc := 196) (v := nI (j + 1)) C dX7_copy_196 (k_inc j) rfl ?_
                            refine k_goto (pc := 199) C 167 dX7_copy_199 (by decide) ?_
                            exact k_cast rfl rfl (by rw [f_X7_cp1_s]) hk
                        · skip
                          refine k_aload_n (pc := 157) C dX7_copy_157 rfl ?_
                          refine k_bipush (pc := 158) (v := (-5)) C dX7_copy_158 (by decide) ?_
                          refine k_call1 (pc := 160) C cv_X7_139 (ct_X7_no (k_vd (by decide))) k_in7 rfl (by decide) rfl (Nat.le_of_ble_eq_true rfl) dX7_copy_160 ?_
                          exact k_iret (pc := 163) C rfl  (k_fIml (by unfold f_X7_copy; rw [if_neg c5, if_neg c13, if_neg c29, if_neg c39, if_pos c49, if_neg c59, if_neg c99, if_pos c111, if_neg c122, if_neg c127, if_neg c140, if_neg c154]; try rfl)) dX7_copy_163
                · skip
                  refine k_aload_n (pc := 114) C dX7_copy_114 rfl ?_
                  refine k_bipush (pc := 115) (v := (-4)) C dX7_copy_115 (by decide) ?_
                  refine k_call1 (pc := 117) C cv_X7_139 (ct_X7_no (k_vd (by decide))) k_in7 rfl (by decide) rfl (Nat.le_of_ble_eq_true rfl) dX7_copy_117 ?_
                  exact k_iret (pc := 120) C rfl  (k_fIml (by unfold f_X7_copy; rw [if_neg c5, if_neg c13, if_neg c29, if_neg c39, if_pos c49, if_neg c59, if_neg c99, if_neg c111]; try rfl)) dX7_copy_120
              · skip
                refine k_aload_n (pc := 102) C dX7_copy_102 rfl ?_
                refine k_bipush (pc := 103) (v := (-3)) C dX7_copy_103 (by decide) ?_
                refine k_call1 (pc := 105) C cv_X7_139 (ct_X7_no (k_vd (by decide))) k_in7 rfl (by decide) rfl (Nat.le_of_ble_eq_true rfl) dX7_copy_105 ?_
                exact k_iret (pc := 108) C rfl  (k_fIml (by unfold f_X7_copy; rw [if_neg c5, if_neg c13, if_neg c29, if_neg c39, if_pos c49, if_neg c59, if_pos c99]; try rfl)) dX7_copy_108
            · skip
              refine k_aload_n (pc := 62) C dX7_copy_62 rfl ?_
              refine k_getR (pc := 63) (r := some (8, 19, 0)) C fl_X7_59 k_in7 rfl rfl rfl dX7_copy_63 ?_
              refine k_iload_n (pc := 66) C dX7_copy_66 rfl ?_
              refine k_ialdX (pc := 67) (j := p0.toNatClampNeg) C rfl (by decide +kernel) rfl (by first | assumption | exact k_vin (N := 8) (n := 8) (by assumption) (by assumption) (by decide)) dX7_copy_67 ?_
              refine k_aload_n (pc := 68) C dX7_copy_68 rfl ?_
              refine k_getR (pc := 69) (r := some (8, 19, 0)) C fl_X7_59 k_in7 rfl rfl rfl dX7_copy_69 ?_
              refine k_iload_n (pc := 72) C dX7_copy_72 rfl ?_
              refine k_ialdX (pc := 73) (j := q0.toNatClampNeg) C rfl (by decide +kernel) rfl (by first | assumption | exact k_vin (N := 8) (n := 8) (by assumption) (by assumption) (by decide)) dX7_copy_73 ?_
              refine k_icmp_eq (pc := 74) C 84 dX7_copy_74 (by decide) (fun c74 => ?_) (fun c74 => ?_)
              · skip
                refine k_aload_n (pc := 84) C dX7_copy_84 rfl ?_
                refine k_getR (pc := 85) (r := some (8, 18, 0)) C fl_X7_56 k_in7 rfl rfl rfl dX7_copy_85 ?_
                refine k_iload_n (pc := 88) C dX7_copy_88 rfl ?_
                refine k_ialdX (pc := 89) (j := p0.toNatClampNeg) C rfl (by decide +kernel) rfl (by first | assumption | exact k_vin (N := 8) (n := 8) (by assumption) (by assumption) (by decide)) dX7_copy_89 ?_
                refine k_if_eqF (pc := 90) C 102 dX7_copy_90 (by decide) (by rw [c49]; decide) ?_
                refine k_aload_n (pc := 93) C dX7_copy_93 rfl ?_
                refine k_getR (pc := 94) (r := some (8, 18, 0)) C fl_X7_56 k_in7 rfl rfl rfl dX7_copy_94 ?_
                refine k_iload_n (pc := 97) C dX7_copy_97 rfl ?_
                refine k_ialdX (pc := 98) (j := q0.toNatClampNeg) C rfl (by decide +kernel) rfl (by first | assumption | exact k_vin (N := 8) (n := 8) (by assumption) (by assumption) (by decide)) dX7_copy_98 ?_
                refine k_if_neT (pc := 99) C 109 dX7_copy_99 (by decide) (by rw [c59]; decide) ?_
                refine k_iload (pc := 109) C dX7_copy_109 rfl ?_
                refine k_if_ge (pc := 111) C 121 dX7_copy_111 (by decide) (fun c111 => ?_) (fun c111 => ?_)
                · skip
                  refine k_iload_n (pc := 121) C dX7_copy_121 rfl ?_
                  refine k_if_lt (pc := 122) C 157 dX7_copy_122 (by decide) (fun c122 => ?_) (fun c122 => ?_)
                  · skip
                    refine k_aload_n (pc := 157) C dX7_copy_157 rfl ?_
                    refine k_bipush (pc := 158) (v := (-5)) C dX7_copy_158 (by decide) ?_
                    refine k_call1 (pc := 160) C cv_X7_139 (ct_X7_no (k_vd (by decide))) k_in7 rfl (by decide) rfl (Nat.le_of_ble_eq_true rfl) dX7_copy_160 ?_
                    exact k_iret (pc := 163) C rfl  (k_fIml (by unfold f_X7_copy; rw [if_neg c5, if_neg c13, if_neg c29, if_neg c39, if_pos c49, if_pos c59, if_pos c74, if_pos c111, if_pos c122]; try rfl)) dX7_copy_163
                  · skip
                    refine k_iload (pc := 125) C dX7_copy_125 rfl ?_
                    refine k_if_lt (pc := 127) C 157 dX7_copy_127 (by decide) (fun c127 => ?_) (fun c127 => ?_)
                    · skip
                      refine k_aload_n (pc := 157) C dX7_copy_157 rfl ?_
                      refine k_bipush (pc := 158) (v := (-5)) C dX7_copy_158 (by decide) ?_
                      refine k_call1 (pc := 160) C cv_X7_139 (ct_X7_no (k_vd (by decide))) k_in7 rfl (by decide) rfl (Nat.le_of_ble_eq_true rfl) dX7_copy_160 ?_
                      exact k_iret (pc := 163) C rfl  (k_fIml (by unfold f_X7_copy; rw [if_neg c5, if_neg c13, if_neg c29, if_neg c39, if_pos c49, if_pos c59, if_pos c74, if_pos c111, if_neg c122, if_pos c127]; try rfl)) dX7_copy_163
                    · skip
                      refine k_iload_n (pc := 130) C dX7_copy_130 rfl ?_
                      refine k_aload_n (pc := 131) C dX7_copy_131 rfl ?_
                      refine k_getR (pc := 132) (r := some (8, 20, 0)) C fl_X7_62 k_in7 rfl rfl rfl dX7_copy_132 ?_
                      refine k_iload_n (pc := 135) C dX7_copy_135 rfl ?_
                      refine k_ialdX (pc := 136) (j := p0.toNatClampNeg) C rfl (by decide +kernel) rfl (by first | assumption | exact k_vin (N := 8) (n := 8) (by assumption) (by assumption) (by decide)) dX7_copy_136 ?_
                      refine k_iload (pc := 137) C dX7_copy_137 rfl ?_
                      refine k_isub (pc := 139) C dX7_copy_139 ?_
                      refine k_icmp_gt (pc := 140) C 157 dX7_copy_140 (by decide) (fun c140 => ?_) (fun c140 => ?_)
                      · skip
                        refine k_aload_n (pc := 157) C dX7_copy_157 rfl ?_
                        refine k_bipush (pc := 158) (v := (-5)) C dX7_copy_158 (by decide) ?_
                        refine k_call1 (pc := 160) C cv_X7_139 (ct_X7_no (k_vd (by decide))) k_in7 rfl (by decide) rfl (Nat.le_of_ble_eq_true rfl) dX7_copy_160 ?_
                        exact k_iret (pc := 163) C rfl  (k_fIml (by unfold f_X7_copy; rw [if_neg c5, if_neg c13, if_neg c29, if_neg c39, if_pos c49, if_pos c59, if_pos c74, if_pos c111, if_neg c122, if_neg c127, if_pos c140]; try rfl)) dX7_copy_163
                      · skip
                        refine k_iload (pc := 143) C dX7_copy_143 rfl ?_
                        refine k_aload_n (pc := 145) C dX7_copy_145 rfl ?_
                        refine k_getR (pc := 146) (r := some (8, 20, 0)) C fl_X7_62 k_in7 rfl rfl rfl dX7_copy_146 ?_
                        refine k_iload_n (pc := 149) C dX7_copy_149 rfl ?_
                        refine k_ialdX (pc := 150) (j := q0.toNatClampNeg) C rfl (by decide +kernel) rfl (by first | assumption | exact k_vin (N := 8) (n := 8) (by assumption) (by assumption) (by decide)) dX7_copy_150 ?_
                        refine k_iload (pc := 151) C dX7_copy_151 rfl ?_
                        refine k_isub (pc := 153) C dX7_copy_153 ?_
                        refine k_icmp_le (pc := 154) C 164 dX7_copy_154 (by decide) (fun c154 => ?_) (fun c154 => ?_)
                        · skip
                          have hp8 : vp_in p0 8 := by assumption
                          have hq8 : vp_in q0 8 := by assumption
                          have hn0 : ¬ n < 0 := Int32.not_lt.mpr c111
                          have hx0 : ¬ x < 0 := c122
                          have hy0 : ¬ y < 0 := c127
                          have hbx := k_cpb hsz (k_clamp hp8) hx0 hn0 (Int32.not_lt.mp c140)
                          have hby := k_cpb hsz (k_clamp hq8) hy0 hn0 c154
                          refine k_iconst (pc := 164) (v := 0) C dX7_copy_164 (by decide) ?_
                          refine k_istore_6 (pc := 165) C dX7_copy_165 rfl ?_
                          refine k_cast (L' := [vR (7, 0, 0), vI p0, vI q0, vI x, vI y, vI n, vI (nI 0)]) (mi' := mi) (ml' := f_X7_cp1 ml p0 x 0) rfl rfl rfl ?_
                          refine k_down (P := fun j => k_V p l e (k_rm 1) s m args below meth c D cy ad bs k_KS k_R0 0 0 (k_End below D cy ad bs k_KS k_R0 (k_rt (some (vI (f_X7_copy mi ml p0 q0 x y n).1)) (f_X7_copy mi ml p0 q0 x y n).2.1 (f_X7_copy mi ml p0 q0 x y n).2.2) args s) mi (f_X7_cp1 ml p0 x j) 167 [vR (7, 0, 0), vI p0, vI q0, vI x, vI y, vI n, vI (nI j)] []) n.toNatClampNeg ?_ (fun j hj hk => ?_)
                          · skip
                            refine k_iload (pc := 167) C dX7_copy_167 rfl ?_
                            refine k_iload (pc := 169) C dX7_copy_169 rfl ?_
                            refine k_icmp_geT (pc := 171) C 202 dX7_copy_171 (by decide) (k_leN hn0) ?_
                            refine k_iconst (pc := 202) (v := 0) C dX7_copy_202 (by decide) ?_
                            refine k_istore_6 (pc := 203) C dX7_copy_203 rfl ?_
                            refine k_cast (L' := [vR (7, 0, 0), vI p0, vI q0, vI x, vI y, vI n, vI (nI 0)]) (mi' := mi) (ml' := f_X7_cp2 (f_X7_cp1 ml p0 x n.toNatClampNeg) q0 y 0) rfl rfl rfl ?_
                            refine k_down (P := fun j => k_V p l e (k_rm 1) s m args below meth c D cy ad bs k_KS k_R0 0 0 (k_End below D cy ad bs k_KS k_R0 (k_rt (some (vI (f_X7_copy mi ml p0 q0 x y n).1)) (f_X7_copy mi ml p0 q0 x y n).2.1 (f_X7_copy mi ml p0 q0 x y n).2.2) args s) mi (f_X7_cp2 (f_X7_cp1 ml p0 x n.toNatClampNeg) q0 y j) 205 [vR (7, 0, 0), vI p0, vI q0, vI x, vI y, vI n, vI (nI j)] []) n.toNatClampNeg ?_ (fun j hj hk => ?_)
                            · skip
                              refine k_iload (pc := 205) C dX7_copy_205 rfl ?_
                              refine k_iload (pc := 207) C dX7_copy_207 rfl ?_
                              refine k_icmp_geT (pc := 209) C 241 dX7_copy_209 (by decide) (k_leN hn0) ?_
                              refine k_iconst (pc := 241) (v := 1) C dX7_copy_241 (by decide) ?_
                              exact k_iret (pc := 242) C rfl  (k_fIml (by unfold f_X7_copy; rw [if_neg c5, if_neg c13, if_neg c29, if_neg c39, if_pos c49, if_pos c59, if_pos c74, if_pos c111, if_neg c122, if_neg c127, if_neg c140, if_pos c154]; try rfl)) dX7_copy_242
                            · skip
                              try dsimp only at hk
                              refine k_iload (pc := 205) C dX7_copy_205 rfl ?_
                              refine k_iload (pc := 207) C dX7_copy_207 rfl ?_
                              refine k_icmp_geF (pc := 209) C 241 dX7_copy_209 (by decide) (k_ngeN hn0 hj) ?_
                              refine k_aload_n (pc := 212) C dX7_copy_212 rfl ?_
                              refine k_getR (pc := 213) (r := some (9, 1, 0)) C fl_X7_68 k_in7 rfl rfl rfl dX7_copy_213 ?_
                              refine k_sipush (pc := 216) (v := 160) C dX7_copy_216 (by decide) ?_
                              refine k_iload_n (pc := 219) C dX7_copy_219 rfl ?_
                              refine k_imul (pc := 220) C dX7_copy_220 ?_
                              refine k_iload (pc := 221) C dX7_copy_221 rfl ?_
                              refine k_iadd (pc := 223) C dX7_copy_223 ?_
                              refine k_iload (pc := 224) C dX7_copy_224 rfl ?_
                              refine k_iadd (pc := 226) C dX7_copy_226 ?_
                              refine k_aload_n (pc := 227) C dX7_copy_227 rfl ?_
                              refine k_getR (pc := 228) (r := some (9, 2, 0)) C fl_X7_72 k_in7 rfl rfl rfl dX7_copy_228 ?_
                              refine k_iload (pc := 231) C dX7_copy_231 rfl ?_
                              refine k_laldX (pc := 233) (j := j) C (nI_clamp (by omega)) (by decide +kernel) rfl (vp_in_nI (show _ < (160 : Nat) by omega) (show (160 : Nat) < 2 ^ 31 by decide)) dX7_copy_233 ?_
                              refine k_lastX (pc := 234) (j := (((160 * q0) + y) + (nI j)).toNatClampNeg) C rfl (by decide +kernel) rfl (k_cellin3 hq8 hy0 (show y.toNatClampNeg + j < 160 by omega)).1 dX7_copy_234 ?_
                              refine k_iinc_6 (pc := 235) (v := nI (j + 1)) C dX7_copy_235 (k_inc j) rfl ?_
                              refine k_goto (pc := 238) C 205 dX7_copy_238 (by decide) ?_
                              exact k_cast rfl rfl (by rw [f_X7_cp2_s]) hk
                          · skip
                            try dsimp only at hk
                            refine k_iload (pc := 167) C dX7_copy_167 rfl ?_
                            refine k_iload (pc := 169) C dX7_copy_169 rfl ?_
                            refine k_icmp_geF (pc := 171) C 202 dX7_copy_171 (by decide) (k_ngeN hn0 hj) ?_
                            refine k_aload_n (pc := 174) C dX7_copy_174 rfl ?_
                            refine k_getR (pc := 175) (r := some (9, 2, 0)) C fl_X7_72 k_in7 rfl rfl rfl dX7_copy_175 ?_
                            refine k_iload (pc := 178) C dX7_copy_178 rfl ?_
                            refine k_aload_n (pc := 180) C dX7_copy_180 rfl ?_
                            refine k_getR (pc := 181) (r := some (9, 1, 0)) C fl_X7_68 k_in7 rfl rfl rfl dX7_copy_181 ?_
                            refine k_sipush (pc := 184) (v := 160) C dX7_copy_184 (by decide) ?_
                            refine k_iload_n (pc := 187) C dX7_copy_187 rfl ?_
                            refine k_imul (pc := 188) C dX7_copy_188 ?_
                            refine k_iload_n (pc := 189) C dX7_copy_189 rfl ?_
                            refine k_iadd (pc := 190) C dX7_copy_190 ?_
                            refine k_iload (pc := 191) C dX7_copy_191 rfl ?_
                            refine k_iadd (pc := 193) C dX7_copy_193 ?_
                            refine k_laldX (pc := 194) (j := (((160 * p0) + x) + (nI j)).toNatClampNeg) C rfl (by decide +kernel) rfl (k_cellin3 hp8 hx0 (show x.toNatClampNeg + j < 160 by omega)).1 dX7_copy_194 ?_
                            refine k_lastX (pc := 195) (j := j) C (nI_clamp (by omega)) (by decide +kernel) rfl (vp_in_nI (show _ < (160 : Nat) by omega) (show (160 : Nat) < 2 ^ 31 by decide)) dX7_copy_195 ?_
                            refine k_iinc_6 (pc := 196) (v := nI (j + 1)) C dX7_copy_196 (k_inc j) rfl ?_
                            refine k_goto (pc := 199) C 167 dX7_copy_199 (by decide) ?_
                            exact k_cast rfl rfl (by rw [f_X7_cp1_s]) hk
                        · skip
                          refine k_aload_n (pc := 157) C dX7_copy_157 rfl ?_
                          refine k_bipush (pc := 158) (v := (-5)) C dX7_copy_158 (by decide) ?_
                          refine k_call1 (pc := 160) C cv_X7_139 (ct_X7_no (k_vd (by decide))) k_in7 rfl (by decide) rfl (Nat.le_of_ble_eq_true rfl) dX7_copy_160 ?_
                          exact k_iret (pc := 163) C rfl  (k_fIml (by unfold f_X7_copy; rw [if_neg c5, if_neg c13, if_neg c29, if_neg c39, if_pos c49, if_pos c59, if_pos c74, if_pos c111, if_neg c122, if_neg c127, if_neg c140, if_neg c154]; try rfl)) dX7_copy_163
                · skip
                  refine k_aload_n (pc := 114) C dX7_copy_114 rfl ?_
                  refine k_bipush (pc := 115) (v := (-4)) C dX7_copy_115 (by decide) ?_
                  refine k_call1 (pc := 117) C cv_X7_139 (ct_X7_no (k_vd (by decide))) k_in7 rfl (by decide) rfl (Nat.le_of_ble_eq_true rfl) dX7_copy_117 ?_
                  exact k_iret (pc := 120) C rfl  (k_fIml (by unfold f_X7_copy; rw [if_neg c5, if_neg c13, if_neg c29, if_neg c39, if_pos c49, if_pos c59, if_pos c74, if_neg c111]; try rfl)) dX7_copy_120
              · skip
                refine k_aload_n (pc := 77) C dX7_copy_77 rfl ?_
                refine k_bipush (pc := 78) (v := (-2)) C dX7_copy_78 (by decide) ?_
                refine k_call1 (pc := 80) C cv_X7_139 (ct_X7_no (k_vd (by decide))) k_in7 rfl (by decide) rfl (Nat.le_of_ble_eq_true rfl) dX7_copy_80 ?_
                exact k_iret (pc := 83) C rfl  (k_fIml (by unfold f_X7_copy; rw [if_neg c5, if_neg c13, if_neg c29, if_neg c39, if_pos c49, if_pos c59, if_neg c74]; try rfl)) dX7_copy_83
    · skip
      refine k_aload_n (pc := 16) C dX7_copy_16 rfl ?_
      refine k_iconst (pc := 17) (v := (-1)) C dX7_copy_17 (by decide) ?_
      refine k_call1 (pc := 18) C cv_X7_139 (ct_X7_no (k_vd (by decide))) k_in7 rfl (by decide) rfl (Nat.le_of_ble_eq_true rfl) dX7_copy_18 ?_
      exact k_iret (pc := 21) C rfl  (k_fIml (by unfold f_X7_copy; rw [if_neg c5, if_pos c13]; try rfl)) dX7_copy_21
def f_X7_toL (mi : MemI) (fo : Nat) : Nat → Int32
  | 0 => 0
  | j + 1 =>
    ((f_X7_toL mi fo j) + (mi (8, fo, 0) j))
theorem f_X7_toL_s (mi : MemI) (fo : Nat) (j : Nat) : f_X7_toL mi fo (j + 1) =
    ((f_X7_toL mi fo j) + (mi (8, fo, 0) j)) := rfl
def f_X7_together (mi : MemI) (fo : Nat) (n : Nat) : Int32 :=
  (f_X7_toL mi fo n)
set_option maxRecDepth 100000 in
set_option maxHeartbeats 4000000 in
theorem ct_X7_together {mi : MemI} {ml : MemL} {fo : Nat} {n : Nat} (hof : (8, fo, 0) ∈ k_KS) (hl1 : k_ln (8, fo, 0) = 6) (hn : n ≤ 6) : k_Ct k_KS k_R0 Mt_X7_together 0 [vR (7, 0, 0), vR (8, fo, 0), vI (nI n)] mi ml (k_rt (some (vI (f_X7_together mi fo n))) mi ml) := by
  refine k_ofV (L0 := [vR (7, 0, 0), vR (8, fo, 0), vI (nI n), vU, vU]) (by decide +kernel) (Nat.le_of_ble_eq_true rfl) rfl rfl ?_
  intro p l e s m args below meth c D cy ad bs C
  refine k_iconst (pc := 0) (v := 0) C dX7_together_0 (by decide) ?_
  refine k_istore_3 (pc := 1) C dX7_together_1 rfl ?_
  refine k_iconst (pc := 2) (v := 0) C dX7_together_2 (by decide) ?_
  refine k_istore_4 (pc := 3) C dX7_together_3 rfl ?_
  refine k_cast (L' := [vR (7, 0, 0), vR (8, fo, 0), vI (nI n), vI (f_X7_toL mi fo 0), vI (nI 0)]) (mi' := mi) (ml' := ml) rfl rfl rfl ?_
  refine k_down (P := fun j => k_V p l e (k_rm 0) s m args below meth c D cy ad bs k_KS k_R0 0 0 (k_End below D cy ad bs k_KS k_R0 (k_rt (some (vI (f_X7_together mi fo n))) mi ml) args s) mi ml 5 [vR (7, 0, 0), vR (8, fo, 0), vI (nI n), vI (f_X7_toL mi fo j), vI (nI j)] []) n ?_ (fun j hj hk => ?_)
  · skip
    refine k_iload (pc := 5) C dX7_together_5 rfl ?_
    refine k_iload_n (pc := 7) C dX7_together_7 rfl ?_
    refine k_icmp_geT (pc := 8) C 24 dX7_together_8 (by decide) (Int32.le_refl _) ?_
    refine k_iload_n (pc := 24) C dX7_together_24 rfl ?_
    exact k_iret (pc := 25) C rfl  (k_fI (by unfold f_X7_together; try rfl)) dX7_together_25
  · skip
    try dsimp only at hk
    refine k_iload (pc := 5) C dX7_together_5 rfl ?_
    refine k_iload_n (pc := 7) C dX7_together_7 rfl ?_
    refine k_icmp_geF (pc := 8) C 24 dX7_together_8 (by decide) (nI_ge hj (by omega)) ?_
    refine k_iload_n (pc := 11) C dX7_together_11 rfl ?_
    refine k_aload_n (pc := 12) C dX7_together_12 rfl ?_
    refine k_iload (pc := 13) C dX7_together_13 rfl ?_
    refine k_ialdX (pc := 15) (j := j) C (nI_clamp (by omega)) (by assumption) rfl (by rw [hl1]; exact vp_in_nI (by omega) (by decide)) dX7_together_15 ?_
    refine k_iadd (pc := 16) C dX7_together_16 ?_
    refine k_istore_3 (pc := 17) C dX7_together_17 rfl ?_
    refine k_iinc_4 (pc := 18) (v := nI (j + 1)) C dX7_together_18 (k_inc j) rfl ?_
    refine k_goto (pc := 21) C 5 dX7_together_21 (by decide) ?_
    exact k_cast (by rw [f_X7_toL_s]) rfl rfl hk
def f_X7_status (mi : MemI) (w : Int32) (nC : Nat) (nB : Nat) : Int32 :=
  if w < 11 then if w = 0 then (nI nC)
    else if w = 1 then (nI nB)
      else if w = 2 then (mi (7, 0, 0) 2)
        else if w = 3 then (f_X7_together mi 10 nC)
          else if w = 4 then (f_X7_together mi 16 nB)
            else if w = 5 then (f_X7_together mi 12 nC)
              else if w = 6 then (f_X7_together mi 17 nB)
                else if w = 7 then (mi (7, 0, 0) 3)
                  else if w = 8 then (mi (7, 0, 0) 51)
                    else (-1)
  else if 17 < w then if w = 0 then (nI nC)
      else if w = 1 then (nI nB)
        else if w = 2 then (mi (7, 0, 0) 2)
          else if w = 3 then (f_X7_together mi 10 nC)
            else if w = 4 then (f_X7_together mi 16 nB)
              else if w = 5 then (f_X7_together mi 12 nC)
                else if w = 6 then (f_X7_together mi 17 nB)
                  else if w = 7 then (mi (7, 0, 0) 3)
                    else if w = 8 then (mi (7, 0, 0) 51)
                      else (-1)
    else (mi (8, 5, 0) ((w - 10).toNatClampNeg))
set_option maxRecDepth 100000 in
set_option maxHeartbeats 4000000 in
theorem ct_X7_status {mi : MemI} {ml : MemL} {w : Int32} {nC : Nat} {nB : Nat} (hm : k_mo nC nB mi) : k_Ct k_KS k_R0 Mt_X7_status 1 [vR (7, 0, 0), vI w] mi ml (k_rt (some (vI (f_X7_status mi w nC nB))) mi ml) := by
  refine k_ofV (L0 := [vR (7, 0, 0), vI w]) (by decide +kernel) (Nat.le_of_ble_eq_true rfl) rfl rfl ?_
  intro p l e s m args below meth c D cy ad bs C
  have hC := hm.1
  have h6 := hm.2.1
  have hB := hm.2.2.1
  have h6b := hm.2.2.2.1
  refine k_iload_n (pc := 0) C dX7_status_0 rfl ?_
  refine k_bipush (pc := 1) (v := 11) C dX7_status_1 (by decide) ?_
  refine k_icmp_lt (pc := 3) C 22 dX7_status_3 (by decide) (fun c3 => ?_) (fun c3 => ?_)
  · skip
    refine k_iload_n (pc := 22) C dX7_status_22 rfl ?_
    by_cases c23_0 : w = 0
    · skip
      refine k_tabIn (pc := 23) (v := 0) C 72 dX7_status_23 c23_0 (by decide) (by decide) rfl (by decide) ?_
      refine k_aload_n (pc := 72) C dX7_status_72 rfl ?_
      refine k_getI (pc := 73) C fl_X7_129 k_in7 rfl rfl dX7_status_73 ?_
      refine k_sx (x := nI nC) (hC) ?_
      exact k_iret (pc := 76) C rfl  (k_fI (by unfold f_X7_status; rw [if_pos c3, if_pos c23_0]; try rfl)) dX7_status_76
    by_cases c23_1 : w = 1
    · skip
      refine k_tabIn (pc := 23) (v := 1) C 77 dX7_status_23 c23_1 (by decide) (by decide) rfl (by decide) ?_
      refine k_aload_n (pc := 77) C dX7_status_77 rfl ?_
      refine k_getI (pc := 78) C fl_X7_132 k_in7 rfl rfl dX7_status_78 ?_
      refine k_sx (x := nI nB) (hB) ?_
      exact k_iret (pc := 81) C rfl  (k_fI (by unfold f_X7_status; rw [if_pos c3, if_neg c23_0, if_pos c23_1]; try rfl)) dX7_status_81
    by_cases c23_2 : w = 2
    · skip
      refine k_tabIn (pc := 23) (v := 2) C 82 dX7_status_23 c23_2 (by decide) (by decide) rfl (by decide) ?_
      refine k_aload_n (pc := 82) C dX7_status_82 rfl ?_
      refine k_getI (pc := 83) C fl_X7_207 k_in7 rfl rfl dX7_status_83 ?_
      exact k_iret (pc := 86) C rfl  (k_fI (by unfold f_X7_status; rw [if_pos c3, if_neg c23_0, if_neg c23_1, if_pos c23_2]; try rfl)) dX7_status_86
    by_cases c23_3 : w = 3
    · skip
      refine k_tabIn (pc := 23) (v := 3) C 87 dX7_status_23 c23_3 (by decide) (by decide) rfl (by decide) ?_
      refine k_aload_n (pc := 87) C dX7_status_87 rfl ?_
      refine k_aload_n (pc := 88) C dX7_status_88 rfl ?_
      refine k_getR (pc := 89) (r := some (8, 10, 0)) C fl_X7_32 k_in7 rfl rfl rfl dX7_status_89 ?_
      refine k_aload_n (pc := 92) C dX7_status_92 rfl ?_
      refine k_getI (pc := 93) C fl_X7_129 k_in7 rfl rfl dX7_status_93 ?_
      refine k_sx (x := nI nC) (hC) ?_
      refine k_call2 (pc := 96) C cv_X7_294 (ct_X7_together (by decide +kernel) rfl (by omega)) k_in7 rfl (by decide) rfl (Nat.le_of_ble_eq_true rfl) dX7_status_96 ?_
      exact k_iret (pc := 99) C rfl  (k_fI (by unfold f_X7_status; rw [if_pos c3, if_neg c23_0, if_neg c23_1, if_neg c23_2, if_pos c23_3]; try rfl)) dX7_status_99
    by_cases c23_4 : w = 4
    · skip
      refine k_tabIn (pc := 23) (v := 4) C 100 dX7_status_23 c23_4 (by decide) (by decide) rfl (by decide) ?_
      refine k_aload_n (pc := 100) C dX7_status_100 rfl ?_
      refine k_aload_n (pc := 101) C dX7_status_101 rfl ?_
      refine k_getR (pc := 102) (r := some (8, 16, 0)) C fl_X7_50 k_in7 rfl rfl rfl dX7_status_102 ?_
      refine k_aload_n (pc := 105) C dX7_status_105 rfl ?_
      refine k_getI (pc := 106) C fl_X7_132 k_in7 rfl rfl dX7_status_106 ?_
      refine k_sx (x := nI nB) (hB) ?_
      refine k_call2 (pc := 109) C cv_X7_294 (ct_X7_together (by decide +kernel) rfl (by omega)) k_in7 rfl (by decide) rfl (Nat.le_of_ble_eq_true rfl) dX7_status_109 ?_
      exact k_iret (pc := 112) C rfl  (k_fI (by unfold f_X7_status; rw [if_pos c3, if_neg c23_0, if_neg c23_1, if_neg c23_2, if_neg c23_3, if_pos c23_4]; try rfl)) dX7_status_112
    by_cases c23_5 : w = 5
    · skip
      refine k_tabIn (pc := 23) (v := 5) C 113 dX7_status_23 c23_5 (by decide) (by decide) rfl (by decide) ?_
      refine k_aload_n (pc := 113) C dX7_status_113 rfl ?_
      refine k_aload_n (pc := 114) C dX7_status_114 rfl ?_
      refine k_getR (pc := 115) (r := some (8, 12, 0)) C fl_X7_38 k_in7 rfl rfl rfl dX7_status_115 ?_
      refine k_aload_n (pc := 118) C dX7_status_118 rfl ?_
      refine k_getI (pc := 119) C fl_X7_129 k_in7 rfl rfl dX7_status_119 ?_
      refine k_sx (x := nI nC) (hC) ?_
      refine k_call2 (pc := 122) C cv_X7_294 (ct_X7_together (by decide +kernel) rfl (by omega)) k_in7 rfl (by decide) rfl (Nat.le_of_ble_eq_true rfl) dX7_status_122 ?_
      exact k_iret (pc := 125) C rfl  (k_fI (by unfold f_X7_status; rw [if_pos c3, if_neg c23_0, if_neg c23_1, if_neg c23_2, if_neg c23_3, if_neg c23_4, if_pos c23_5]; try rfl)) dX7_status_125
    by_cases c23_6 : w = 6
    · skip
      refine k_tabIn (pc := 23) (v := 6) C 126 dX7_status_23 c23_6 (by decide) (by decide) rfl (by decide) ?_
      refine k_aload_n (pc := 126) C dX7_status_126 rfl ?_
      refine k_aload_n (pc := 127) C dX7_status_127 rfl ?_
      refine k_getR (pc := 128) (r := some (8, 17, 0)) C fl_X7_53 k_in7 rfl rfl rfl dX7_status_128 ?_
      refine k_aload_n (pc := 131) C dX7_status_131 rfl ?_
      refine k_getI (pc := 132) C fl_X7_132 k_in7 rfl rfl dX7_status_132 ?_
      refine k_sx (x := nI nB) (hB) ?_
      refine k_call2 (pc := 135) C cv_X7_294 (ct_X7_together (by decide +kernel) rfl (by omega)) k_in7 rfl (by decide) rfl (Nat.le_of_ble_eq_true rfl) dX7_status_135 ?_
      exact k_iret (pc := 138) C rfl  (k_fI (by unfold f_X7_status; rw [if_pos c3, if_neg c23_0, if_neg c23_1, if_neg c23_2, if_neg c23_3, if_neg c23_4, if_neg c23_5, if_pos c23_6]; try rfl)) dX7_status_138
    by_cases c23_7 : w = 7
    · skip
      refine k_tabIn (pc := 23) (v := 7) C 139 dX7_status_23 c23_7 (by decide) (by decide) rfl (by decide) ?_
      refine k_aload_n (pc := 139) C dX7_status_139 rfl ?_
      refine k_getI (pc := 140) C fl_X7_7 k_in7 rfl rfl dX7_status_140 ?_
      exact k_iret (pc := 143) C rfl  (k_fI (by unfold f_X7_status; rw [if_pos c3, if_neg c23_0, if_neg c23_1, if_neg c23_2, if_neg c23_3, if_neg c23_4, if_neg c23_5, if_neg c23_6, if_pos c23_7]; try rfl)) dX7_status_143
    by_cases c23_8 : w = 8
    · skip
      refine k_tabIn (pc := 23) (v := 8) C 144 dX7_status_23 c23_8 (by decide) (by decide) rfl (by decide) ?_
      refine k_aload_n (pc := 144) C dX7_status_144 rfl ?_
      refine k_getI (pc := 145) C fl_X7_275 k_in7 rfl rfl dX7_status_145 ?_
      exact k_iret (pc := 148) C rfl  (k_fI (by unfold f_X7_status; rw [if_pos c3, if_neg c23_0, if_neg c23_1, if_neg c23_2, if_neg c23_3, if_neg c23_4, if_neg c23_5, if_neg c23_6, if_neg c23_7, if_pos c23_8]; try rfl)) dX7_status_148
    refine k_tabOut (pc := 23) C 149 dX7_status_23 (k_out 0 8 (fun v h1 h2 => by rcases (show v = 0 ∨ v = 1 ∨ v = 2 ∨ v = 3 ∨ v = 4 ∨ v = 5 ∨ v = 6 ∨ v = 7 ∨ v = 8 by omega) with rfl | rfl | rfl | rfl | rfl | rfl | rfl | rfl | rfl <;> first | exact c23_0 | exact c23_1 | exact c23_2 | exact c23_3 | exact c23_4 | exact c23_5 | exact c23_6 | exact c23_7 | exact c23_8)) (by decide) ?_
    refine k_iconst (pc := 149) (v := (-1)) C dX7_status_149 (by decide) ?_
    exact k_iret (pc := 150) C rfl  (k_fI (by unfold f_X7_status; rw [if_pos c3, if_neg c23_0, if_neg c23_1, if_neg c23_2, if_neg c23_3, if_neg c23_4, if_neg c23_5, if_neg c23_6, if_neg c23_7, if_neg c23_8]; try rfl)) dX7_status_150
  · skip
    refine k_iload_n (pc := 6) C dX7_status_6 rfl ?_
    refine k_bipush (pc := 7) (v := 17) C dX7_status_7 (by decide) ?_
    refine k_icmp_gt (pc := 9) C 22 dX7_status_9 (by decide) (fun c9 => ?_) (fun c9 => ?_)
    · skip
      refine k_iload_n (pc := 22) C dX7_status_22 rfl ?_
      by_cases c23_0 : w = 0
      · skip
        refine k_tabIn (pc := 23) (v := 0) C 72 dX7_status_23 c23_0 (by decide) (by decide) rfl (by decide) ?_
        refine k_aload_n (pc := 72) C dX7_status_72 rfl ?_
        refine k_getI (pc := 73) C fl_X7_129 k_in7 rfl rfl dX7_status_73 ?_
        refine k_sx (x := nI nC) (hC) ?_
        exact k_iret (pc := 76) C rfl  (k_fI (by unfold f_X7_status; rw [if_neg c3, if_pos c9, if_pos c23_0]; try rfl)) dX7_status_76
      by_cases c23_1 : w = 1
      · skip
        refine k_tabIn (pc := 23) (v := 1) C 77 dX7_status_23 c23_1 (by decide) (by decide) rfl (by decide) ?_
        refine k_aload_n (pc := 77) C dX7_status_77 rfl ?_
        refine k_getI (pc := 78) C fl_X7_132 k_in7 rfl rfl dX7_status_78 ?_
        refine k_sx (x := nI nB) (hB) ?_
        exact k_iret (pc := 81) C rfl  (k_fI (by unfold f_X7_status; rw [if_neg c3, if_pos c9, if_neg c23_0, if_pos c23_1]; try rfl)) dX7_status_81
      by_cases c23_2 : w = 2
      · skip
        refine k_tabIn (pc := 23) (v := 2) C 82 dX7_status_23 c23_2 (by decide) (by decide) rfl (by decide) ?_
        refine k_aload_n (pc := 82) C dX7_status_82 rfl ?_
        refine k_getI (pc := 83) C fl_X7_207 k_in7 rfl rfl dX7_status_83 ?_
        exact k_iret (pc := 86) C rfl  (k_fI (by unfold f_X7_status; rw [if_neg c3, if_pos c9, if_neg c23_0, if_neg c23_1, if_pos c23_2]; try rfl)) dX7_status_86
      by_cases c23_3 : w = 3
      · skip
        refine k_tabIn (pc := 23) (v := 3) C 87 dX7_status_23 c23_3 (by decide) (by decide) rfl (by decide) ?_
        refine k_aload_n (pc := 87) C dX7_status_87 rfl ?_
        refine k_aload_n (pc := 88) C dX7_status_88 rfl ?_
        refine k_getR (pc := 89) (r := some (8, 10, 0)) C fl_X7_32 k_in7 rfl rfl rfl dX7_status_89 ?_
        refine k_aload_n (pc := 92) C dX7_status_92 rfl ?_
        refine k_getI (pc := 93) C fl_X7_129 k_in7 rfl rfl dX7_status_93 ?_
        refine k_sx (x := nI nC) (hC) ?_
        refine k_call2 (pc := 96) C cv_X7_294 (ct_X7_together (by decide +kernel) rfl (by omega)) k_in7 rfl (by decide) rfl (Nat.le_of_ble_eq_true rfl) dX7_status_96 ?_
        exact k_iret (pc := 99) C rfl  (k_fI (by unfold f_X7_status; rw [if_neg c3, if_pos c9, if_neg c23_0, if_neg c23_1, if_neg c23_2, if_pos c23_3]; try rfl)) dX7_status_99
      by_cases c23_4 : w = 4
      · skip
        refine k_tabIn (pc := 23) (v := 4) C 100 dX7_status_23 c23_4 (by decide) (by decide) rfl (by decide) ?_
        refine k_aload_n (pc := 100) C dX7_status_100 rfl ?_
        refine k_aload_n (pc := 101) C dX7_status_101 rfl ?_
        refine k_getR (pc := 102) (r := some (8, 16, 0)) C fl_X7_50 k_in7 rfl rfl rfl dX7_status_102 ?_
        refine k_aload_n (pc := 105) C dX7_status_105 rfl ?_
        refine k_getI (pc := 106) C fl_X7_132 k_in7 rfl rfl dX7_status_106 ?_
        refine k_sx (x := nI nB) (hB) ?_
        refine k_call2 (pc := 109) C cv_X7_294 (ct_X7_together (by decide +kernel) rfl (by omega)) k_in7 rfl (by decide) rfl (Nat.le_of_ble_eq_true rfl) dX7_status_109 ?_
        exact k_iret (pc := 112) C rfl  (k_fI (by unfold f_X7_status; rw [if_neg c3, if_pos c9, if_neg c23_0, if_neg c23_1, if_neg c23_2, if_neg c23_3, if_pos c23_4]; try rfl)) dX7_status_112
      by_cases c23_5 : w = 5
      · skip
        refine k_tabIn (pc := 23) (v := 5) C 113 dX7_status_23 c23_5 (by decide) (by decide) rfl (by decide) ?_
        refine k_aload_n (pc := 113) C dX7_status_113 rfl ?_
        refine k_aload_n (pc := 114) C dX7_status_114 rfl ?_
        refine k_getR (pc := 115) (r := some (8, 12, 0)) C fl_X7_38 k_in7 rfl rfl rfl dX7_status_115 ?_
        refine k_aload_n (pc := 118) C dX7_status_118 rfl ?_
        refine k_getI (pc := 119) C fl_X7_129 k_in7 rfl rfl dX7_status_119 ?_
        refine k_sx (x := nI nC) (hC) ?_
        refine k_call2 (pc := 122) C cv_X7_294 (ct_X7_together (by decide +kernel) rfl (by omega)) k_in7 rfl (by decide) rfl (Nat.le_of_ble_eq_true rfl) dX7_status_122 ?_
        exact k_iret (pc := 125) C rfl  (k_fI (by unfold f_X7_status; rw [if_neg c3, if_pos c9, if_neg c23_0, if_neg c23_1, if_neg c23_2, if_neg c23_3, if_neg c23_4, if_pos c23_5]; try rfl)) dX7_status_125
      by_cases c23_6 : w = 6
      · skip
        refine k_tabIn (pc := 23) (v := 6) C 126 dX7_status_23 c23_6 (by decide) (by decide) rfl (by decide) ?_
        refine k_aload_n (pc := 126) C dX7_status_126 rfl ?_
        refine k_aload_n (pc := 127) C dX7_status_127 rfl ?_
        refine k_getR (pc := 128) (r := some (8, 17, 0)) C fl_X7_53 k_in7 rfl rfl rfl dX7_status_128 ?_
        refine k_aload_n (pc := 131) C dX7_status_131 rfl ?_
        refine k_getI (pc := 132) C fl_X7_132 k_in7 rfl rfl dX7_status_132 ?_
        refine k_sx (x := nI nB) (hB) ?_
        refine k_call2 (pc := 135) C cv_X7_294 (ct_X7_together (by decide +kernel) rfl (by omega)) k_in7 rfl (by decide) rfl (Nat.le_of_ble_eq_true rfl) dX7_status_135 ?_
        exact k_iret (pc := 138) C rfl  (k_fI (by unfold f_X7_status; rw [if_neg c3, if_pos c9, if_neg c23_0, if_neg c23_1, if_neg c23_2, if_neg c23_3, if_neg c23_4, if_neg c23_5, if_pos c23_6]; try rfl)) dX7_status_138
      by_cases c23_7 : w = 7
      · skip
        refine k_tabIn (pc := 23) (v := 7) C 139 dX7_status_23 c23_7 (by decide) (by decide) rfl (by decide) ?_
        refine k_aload_n (pc := 139) C dX7_status_139 rfl ?_
        refine k_getI (pc := 140) C fl_X7_7 k_in7 rfl rfl dX7_status_140 ?_
        exact k_iret (pc := 143) C rfl  (k_fI (by unfold f_X7_status; rw [if_neg c3, if_pos c9, if_neg c23_0, if_neg c23_1, if_neg c23_2, if_neg c23_3, if_neg c23_4, if_neg c23_5, if_neg c23_6, if_pos c23_7]; try rfl)) dX7_status_143
      by_cases c23_8 : w = 8
      · skip
        refine k_tabIn (pc := 23) (v := 8) C 144 dX7_status_23 c23_8 (by decide) (by decide) rfl (by decide) ?_
        refine k_aload_n (pc := 144) C dX7_status_144 rfl ?_
        refine k_getI (pc := 145) C fl_X7_275 k_in7 rfl rfl dX7_status_145 ?_
        exact k_iret (pc := 148) C rfl  (k_fI (by unfold f_X7_status; rw [if_neg c3, if_pos c9, if_neg c23_0, if_neg c23_1, if_neg c23_2, if_neg c23_3, if_neg c23_4, if_neg c23_5, if_neg c23_6, if_neg c23_7, if_pos c23_8]; try rfl)) dX7_status_148
      refine k_tabOut (pc := 23) C 149 dX7_status_23 (k_out 0 8 (fun v h1 h2 => by rcases (show v = 0 ∨ v = 1 ∨ v = 2 ∨ v = 3 ∨ v = 4 ∨ v = 5 ∨ v = 6 ∨ v = 7 ∨ v = 8 by omega) with rfl | rfl | rfl | rfl | rfl | rfl | rfl | rfl | rfl <;> first | exact c23_0 | exact c23_1 | exact c23_2 | exact c23_3 | exact c23_4 | exact c23_5 | exact c23_6 | exact c23_7 | exact c23_8)) (by decide) ?_
      refine k_iconst (pc := 149) (v := (-1)) C dX7_status_149 (by decide) ?_
      exact k_iret (pc := 150) C rfl  (k_fI (by unfold f_X7_status; rw [if_neg c3, if_pos c9, if_neg c23_0, if_neg c23_1, if_neg c23_2, if_neg c23_3, if_neg c23_4, if_neg c23_5, if_neg c23_6, if_neg c23_7, if_neg c23_8]; try rfl)) dX7_status_150
    · skip
      refine k_aload_n (pc := 12) C dX7_status_12 rfl ?_
      refine k_getR (pc := 13) (r := some (8, 5, 0)) C fl_X7_16 k_in7 rfl rfl rfl dX7_status_13 ?_
      refine k_iload_n (pc := 16) C dX7_status_16 rfl ?_
      refine k_bipush (pc := 17) (v := 10) C dX7_status_17 (by decide) ?_
      refine k_isub (pc := 19) C dX7_status_19 ?_
      refine k_ialdX (pc := 20) (j := (w - 10).toNatClampNeg) C rfl (by decide +kernel) rfl (k_v17 c3 c9) dX7_status_20 ?_
      exact k_iret (pc := 21) C rfl  (k_fI (by unfold f_X7_status; rw [if_neg c3, if_neg c9]; try rfl)) dX7_status_21
def f_X7_image (mi : MemI) : Int32 × MemI :=
  ((f_X7_allO (k_ui mi (7, 0, 0) 52 1) 34) (7, 0, 0) 0, f_X7_allO (k_ui mi (7, 0, 0) 52 1) 34)
set_option maxRecDepth 100000 in
set_option maxHeartbeats 4000000 in
theorem ct_X7_image {mi : MemI} {ml : MemL}   : k_Ct k_KS k_R0 Mt_X7_image 2 [vR (7, 0, 0)] mi ml (k_rt (some (vI (f_X7_image mi).1)) (f_X7_image mi).2 ml) := by
  refine k_ofV (L0 := [vR (7, 0, 0)]) (by decide +kernel) (Nat.le_of_ble_eq_true rfl) rfl rfl ?_
  intro p l e s m args below meth c D cy ad bs C
  refine k_aload_n (pc := 0) C dX7_image_0 rfl ?_
  refine k_iconst (pc := 1) (v := 1) C dX7_image_1 (by decide) ?_
  refine k_putZ (pc := 2) C (Or.inr rfl) pl_X7_290 k_in7 rfl rfl dX7_image_2 ?_
  refine k_aload_n (pc := 5) C dX7_image_5 rfl ?_
  refine k_aload_n (pc := 6) C dX7_image_6 rfl ?_
  refine k_getR (pc := 7) (r := some (8, 34, 0)) C fl_X7_90 k_in7 rfl rfl rfl dX7_image_7 ?_
  refine k_iconst (pc := 10) (v := 0) C dX7_image_10 (by decide) ?_
  refine k_callv2 (pc := 11) C cv_X7_213 (ct_X7_all_O (by decide +kernel) rfl) k_in7 rfl (by decide) rfl (Nat.le_of_ble_eq_true rfl) dX7_image_11 ?_
  refine k_aload_n (pc := 14) C dX7_image_14 rfl ?_
  refine k_getI (pc := 15) C fl_X7_129 k_in7 rfl rfl dX7_image_15 ?_
  exact k_iret (pc := 18) C rfl  (k_fIm (by unfold f_X7_image; try rfl)) dX7_image_18
def f_X7_reL (mi : MemI) : Nat → MemI
  | 0 => mi
  | j + 1 =>
    if ((f_X7_reL mi j) (8, 18, 0) j) = 2 then if ((f_X7_reL mi j) (8, 21, 0) j) < ((f_X7_reL mi j) (7, 0, 0) 0) then (f_X7_reL mi j)
      else k_ui (f_X7_reL mi j) (8, 18, 0) j 0
    else (f_X7_reL mi j)
theorem f_X7_reL_s (mi : MemI) (j : Nat) : f_X7_reL mi (j + 1) =
    if ((f_X7_reL mi j) (8, 18, 0) j) = 2 then if ((f_X7_reL mi j) (8, 21, 0) j) < ((f_X7_reL mi j) (7, 0, 0) 0) then (f_X7_reL mi j)
      else k_ui (f_X7_reL mi j) (8, 18, 0) j 0
    else (f_X7_reL mi j) := rfl
def f_X7_restore (mi : MemI) : Int32 × MemI :=
  if (mi (7, 0, 0) 52) = 0 then ((f_X7_no mi (-6)).1, (f_X7_no mi (-6)).2)
  else ((f_X7_reL (f_X7_allI mi 34) 8) (7, 0, 0) 0, f_X7_reL (f_X7_allI mi 34) 8)
set_option maxRecDepth 100000 in
set_option maxHeartbeats 4000000 in
theorem ct_X7_restore {mi : MemI} {ml : MemL}   : k_Ct k_KS k_R0 Mt_X7_restore 2 [vR (7, 0, 0)] mi ml (k_rt (some (vI (f_X7_restore mi).1)) (f_X7_restore mi).2 ml) := by
  refine k_ofV (L0 := [vR (7, 0, 0), vU]) (by decide +kernel) (Nat.le_of_ble_eq_true rfl) rfl rfl ?_
  intro p l e s m args below meth c D cy ad bs C
  refine k_aload_n (pc := 0) C dX7_restore_0 rfl ?_
  refine k_getI (pc := 1) C fl_X7_290 k_in7 rfl rfl dX7_restore_1 ?_
  refine k_if_ne (pc := 4) C 14 dX7_restore_4 (by decide) (fun c4 => ?_) (fun c4 => ?_)
  · skip
    refine k_aload_n (pc := 14) C dX7_restore_14 rfl ?_
    refine k_aload_n (pc := 15) C dX7_restore_15 rfl ?_
    refine k_getR (pc := 16) (r := some (8, 34, 0)) C fl_X7_90 k_in7 rfl rfl rfl dX7_restore_16 ?_
    refine k_iconst (pc := 19) (v := 1) C dX7_restore_19 (by decide) ?_
    refine k_callv2 (pc := 20) C cv_X7_213 (ct_X7_all_I (by decide +kernel) rfl) k_in7 rfl (by decide) rfl (Nat.le_of_ble_eq_true rfl) dX7_restore_20 ?_
    refine k_iconst (pc := 23) (v := 0) C dX7_restore_23 (by decide) ?_
    refine k_istore_1 (pc := 24) C dX7_restore_24 rfl ?_
    refine k_cast (L' := [vR (7, 0, 0), vI (nI 0)]) (mi' := f_X7_reL (f_X7_allI mi 34) 0) (ml' := ml) rfl rfl rfl ?_
    refine k_down (P := fun j => k_V p l e (k_rm 2) s m args below meth c D cy ad bs k_KS k_R0 0 0 (k_End below D cy ad bs k_KS k_R0 (k_rt (some (vI (f_X7_restore mi).1)) (f_X7_restore mi).2 ml) args s) (f_X7_reL (f_X7_allI mi 34) j) ml 25 [vR (7, 0, 0), vI (nI j)] []) 8 ?_ (fun j hj hk => ?_)
    · skip
      refine k_iload_n (pc := 25) C dX7_restore_25 rfl ?_
      refine k_bipush (pc := 26) (v := 8) C dX7_restore_26 (by decide) ?_
      refine k_icmp_geT (pc := 28) C 67 dX7_restore_28 (by decide) (by decide) ?_
      refine k_aload_n (pc := 67) C dX7_restore_67 rfl ?_
      refine k_getI (pc := 68) C fl_X7_129 k_in7 rfl rfl dX7_restore_68 ?_
      exact k_iret (pc := 71) C rfl  (k_fIm (by unfold f_X7_restore; rw [if_neg c4]; try rfl)) dX7_restore_71
    · skip
      try dsimp only at hk
      refine k_iload_n (pc := 25) C dX7_restore_25 rfl ?_
      refine k_bipush (pc := 26) (v := 8) C dX7_restore_26 (by decide) ?_
      refine k_icmp_geF (pc := 28) C 67 dX7_restore_28 (by decide) (k_nge (n := 8) rfl (by decide) hj) ?_
      refine k_aload_n (pc := 31) C dX7_restore_31 rfl ?_
      refine k_getR (pc := 32) (r := some (8, 18, 0)) C fl_X7_56 k_in7 rfl rfl rfl dX7_restore_32 ?_
      refine k_iload_n (pc := 35) C dX7_restore_35 rfl ?_
      refine k_ialdX (pc := 36) (j := j) C (nI_clamp (by omega)) (by decide +kernel) rfl (vp_in_nI (show _ < (8 : Nat) by omega) (show (8 : Nat) < 2 ^ 31 by decide)) dX7_restore_36 ?_
      refine k_iconst (pc := 37) (v := 2) C dX7_restore_37 (by decide) ?_
      refine k_icmp_ne (pc := 38) C 61 dX7_restore_38 (by decide) (fun c38 => ?_) (fun c38 => ?_)
      · skip
        refine k_iinc_1 (pc := 61) (v := nI (j + 1)) C dX7_restore_61 (k_inc j) rfl ?_
        refine k_goto (pc := 64) C 25 dX7_restore_64 (by decide) ?_
        exact k_cast rfl (by rw [f_X7_reL_s, if_neg c38]) rfl hk
      · skip
        refine k_aload_n (pc := 41) C dX7_restore_41 rfl ?_
        refine k_getR (pc := 42) (r := some (8, 21, 0)) C fl_X7_65 k_in7 rfl rfl rfl dX7_restore_42 ?_
        refine k_iload_n (pc := 45) C dX7_restore_45 rfl ?_
        refine k_ialdX (pc := 46) (j := j) C (nI_clamp (by omega)) (by decide +kernel) rfl (vp_in_nI (show _ < (8 : Nat) by omega) (show (8 : Nat) < 2 ^ 31 by decide)) dX7_restore_46 ?_
        refine k_aload_n (pc := 47) C dX7_restore_47 rfl ?_
        refine k_getI (pc := 48) C fl_X7_129 k_in7 rfl rfl dX7_restore_48 ?_
        refine k_icmp_lt (pc := 51) C 61 dX7_restore_51 (by decide) (fun c51 => ?_) (fun c51 => ?_)
        · skip
          refine k_iinc_1 (pc := 61) (v := nI (j + 1)) C dX7_restore_61 (k_inc j) rfl ?_
          refine k_goto (pc := 64) C 25 dX7_restore_64 (by decide) ?_
          exact k_cast rfl (by rw [f_X7_reL_s, if_pos c38, if_pos c51]) rfl hk
        · skip
          refine k_aload_n (pc := 54) C dX7_restore_54 rfl ?_
          refine k_getR (pc := 55) (r := some (8, 18, 0)) C fl_X7_56 k_in7 rfl rfl rfl dX7_restore_55 ?_
          refine k_iload_n (pc := 58) C dX7_restore_58 rfl ?_
          refine k_iconst (pc := 59) (v := 0) C dX7_restore_59 (by decide) ?_
          refine k_iastX (pc := 60) (j := j) C (nI_clamp (by omega)) (by decide +kernel) rfl (vp_in_nI (show _ < (8 : Nat) by omega) (show (8 : Nat) < 2 ^ 31 by decide)) dX7_restore_60 ?_
          refine k_iinc_1 (pc := 61) (v := nI (j + 1)) C dX7_restore_61 (k_inc j) rfl ?_
          refine k_goto (pc := 64) C 25 dX7_restore_64 (by decide) ?_
          exact k_cast rfl (by rw [f_X7_reL_s, if_pos c38, if_neg c51]) rfl hk
  · skip
    refine k_aload_n (pc := 7) C dX7_restore_7 rfl ?_
    refine k_bipush (pc := 8) (v := (-6)) C dX7_restore_8 (by decide) ?_
    refine k_call1 (pc := 10) C cv_X7_139 (ct_X7_no (k_vd (by decide))) k_in7 rfl (by decide) rfl (Nat.le_of_ble_eq_true rfl) dX7_restore_10 ?_
    exact k_iret (pc := 13) C rfl  (k_fIm (by unfold f_X7_restore; rw [if_pos c4]; try rfl)) dX7_restore_13
section KZ
variable {p : Program} {l : Launch} {e : Env} {R : Room} {s : State} {m : MethodId} {args : Array Value} {below : List Frame} {meth : Method} {c : Code} {D : va_G} {cy : Nat → ClassId} {ad : Ky → Nat} {bs : Nat} {ks : List Ky} {mr : MemR} {cells slots : Nat} {Q : State → Prop} {mi : MemI} {ml : MemL} {pc : Nat} {L st : List MV} {M : k_M}
theorem k_ldcw (C : k_Cx p s m args meth c D cy ad bs ks M) {n : Nat} {v : Int32} (hw : Cond.constant M.1.cls n v ∈ k_WS) (d : decode M.2.1 pc = .ok (.ldc_w n, 3)) (k : k_V p l e R s m args below meth c D cy ad bs ks mr cells slots Q mi ml (pc + 3) (L) (vI v :: st)) : k_V p l e R s m args below meth c D cy ad bs ks mr cells slots Q mi ml (pc) (L) (st) := by
  obtain ⟨⟨hx, hb, hml, hown, hts⟩, hF, hr, hlk, hnm⟩ := C
  intro H locs ls hP hS hl
  exact lv_ldcw hx hb hown (hts _ hw) d (k H locs ls hP hS hl)
end KZ
theorem lc_X7_271 : Cond.constant RX7 271 1103515245 ∈ k_WS := k_inWS 1329 (by decide +kernel) (by decide)
def f_X7_draw (mi : MemI) (n : Int32) : Int32 × MemI :=
  ((((((mi (7, 0, 0) 3) * 1103515245) + 12345).toUInt32 >>> ((16 : Int32).toUInt32 &&& Int32.toUInt32 31)).toInt32) - (((((mi (7, 0, 0) 3) * 1103515245) + 12345).toUInt32 >>> ((16 : Int32).toUInt32 &&& Int32.toUInt32 31)).toInt32) / n * n, k_ui mi (7, 0, 0) 3 (((mi (7, 0, 0) 3) * 1103515245) + 12345))
set_option maxRecDepth 100000 in
set_option maxHeartbeats 4000000 in
theorem ct_X7_draw {mi : MemI} {ml : MemL} {n : Int32} (hn : ¬ n = 0) : k_Ct k_KS k_R0 Mt_X7_draw 0 [vR (7, 0, 0), vI n] mi ml (k_rt (some (vI (f_X7_draw mi n).1)) (f_X7_draw mi n).2 ml) := by
  refine k_ofV (L0 := [vR (7, 0, 0), vI n]) (by decide +kernel) (Nat.le_of_ble_eq_true rfl) rfl rfl ?_
  intro p l e s m args below meth c D cy ad bs C
  refine k_aload_n (pc := 0) C dX7_draw_0 rfl ?_
  refine k_aload_n (pc := 1) C dX7_draw_1 rfl ?_
  refine k_getI (pc := 2) C fl_X7_7 k_in7 rfl rfl dX7_draw_2 ?_
  refine k_ldcw (pc := 5) C lc_X7_271 dX7_draw_5 ?_
  refine k_imul (pc := 8) C dX7_draw_8 ?_
  refine k_sipush (pc := 9) (v := 12345) C dX7_draw_9 (by decide) ?_
  refine k_iadd (pc := 12) C dX7_draw_12 ?_
  refine k_putI (pc := 13) C pl_X7_7 k_in7 rfl rfl dX7_draw_13 ?_
  refine k_aload_n (pc := 16) C dX7_draw_16 rfl ?_
  refine k_getI (pc := 17) C fl_X7_7 k_in7 rfl rfl dX7_draw_17 ?_
  refine k_sx (x := ((mi (7, 0, 0) 3) * 1103515245) + 12345) (k_uis) ?_
  refine k_bipush (pc := 20) (v := 16) C dX7_draw_20 (by decide) ?_
  refine k_iushr (pc := 22) C dX7_draw_22 ?_
  refine k_iload_n (pc := 23) C dX7_draw_23 rfl ?_
  refine k_irem (pc := 24) C dX7_draw_24 (by first | assumption | exact k_ne0 (by assumption)) ?_
  exact k_iret (pc := 25) C rfl  (k_fIm (by unfold f_X7_draw; try rfl)) dX7_draw_25
theorem mo_draw {nC nB : Nat} {mi : MemI} {n : Int32} (h : k_mo nC nB mi) : k_mo nC nB (f_X7_draw mi n).2 := k_mo_ui h (by simp) (by simp)
def f_X7_wiC (mi : MemI) : Nat → MemI
  | 0 => mi
  | c2 + 1 =>
    if ((((f_X7_draw (f_X7_wiC mi c2) 10).2) (8, 10, 0) c2) / 10) ≤ ((f_X7_draw (f_X7_wiC mi c2) 10).1) then k_ui ((f_X7_draw (f_X7_wiC mi c2) 10).2) (8, 12, 0) c2 0
    else k_ui ((f_X7_draw (f_X7_wiC mi c2) 10).2) (8, 12, 0) c2 1
theorem f_X7_wiC_s (mi : MemI) (c2 : Nat) : f_X7_wiC mi (c2 + 1) =
    if ((((f_X7_draw (f_X7_wiC mi c2) 10).2) (8, 10, 0) c2) / 10) ≤ ((f_X7_draw (f_X7_wiC mi c2) 10).1) then k_ui ((f_X7_draw (f_X7_wiC mi c2) 10).2) (8, 12, 0) c2 0
    else k_ui ((f_X7_draw (f_X7_wiC mi c2) 10).2) (8, 12, 0) c2 1 := rfl
theorem mo_wiC {nC nB : Nat} {mi : MemI} (h : k_mo nC nB mi) : ∀ c2, k_mo nC nB (f_X7_wiC mi c2) := by
  intro c2
  induction c2 with
  | zero => exact h
  | succ c2 ih =>
    rw [f_X7_wiC_s]
    split <;> exact k_mo_ui (mo_draw ih) (by simp) (by simp)
def f_X7_wiL (mi : MemI) (nC : Nat) (nB : Nat) : Nat → Int32 × MemI
  | 0 => (0, mi)
  | j + 1 =>
    (((f_X7_wiL mi nC nB j).1) + ((f_X7_passes (f_X7_wiC ((f_X7_wiL mi nC nB j).2) nC) nC nB) (7, 0, 0) 42), f_X7_passes (f_X7_wiC ((f_X7_wiL mi nC nB j).2) nC) nC nB)
theorem f_X7_wiL_s (mi : MemI) (nC : Nat) (nB : Nat) (j : Nat) : f_X7_wiL mi nC nB (j + 1) =
    (((f_X7_wiL mi nC nB j).1) + ((f_X7_passes (f_X7_wiC ((f_X7_wiL mi nC nB j).2) nC) nC nB) (7, 0, 0) 42), f_X7_passes (f_X7_wiC ((f_X7_wiL mi nC nB j).2) nC) nC nB) := rfl
theorem mo_wiL {nC nB : Nat} {mi : MemI}  (h : k_mo nC nB mi) : ∀ j, k_mo nC nB ((f_X7_wiL mi nC nB j).2) := by
  intro j
  induction j with
  | zero => exact h
  | succ j ih =>
    rw [f_X7_wiL_s]
    repeat' split
    all_goals exact mo_passes (mo_wiC ih nC)
def f_X7_winters (mi : MemI) (n : Int32) (nC : Nat) (nB : Nat) : Int32 × MemI :=
  if (f_X7_isFrom n 1 60) = 0 then ((f_X7_no mi (-6)).1, (f_X7_no mi (-6)).2)
  else (((f_X7_wiL mi nC nB n.toNatClampNeg).1), (f_X7_wiL mi nC nB n.toNatClampNeg).2)
set_option maxRecDepth 100000 in
set_option maxHeartbeats 4000000 in
theorem ct_X7_winters {mi : MemI} {ml : MemL} {n : Int32} {nC : Nat} {nB : Nat} (hm : k_mo nC nB mi) : k_Ct k_KS k_R0 Mt_X7_winters 4 [vR (7, 0, 0), vI n] mi ml (k_rt (some (vI (f_X7_winters mi n nC nB).1)) (f_X7_winters mi n nC nB).2 ml) := by
  refine k_ofV (L0 := [vR (7, 0, 0), vI n, vU, vU, vU]) (by decide +kernel) (Nat.le_of_ble_eq_true rfl) rfl rfl ?_
  intro p l e s m args below meth c D cy ad bs C
  have hC := hm.1
  have h6 := hm.2.1
  have hB := hm.2.2.1
  have h6b := hm.2.2.2.1
  refine k_aload_n (pc := 0) C dX7_winters_0 rfl ?_
  refine k_iload_n (pc := 1) C dX7_winters_1 rfl ?_
  refine k_iconst (pc := 2) (v := 1) C dX7_winters_2 (by decide) ?_
  refine k_bipush (pc := 3) (v := 60) C dX7_winters_3 (by decide) ?_
  refine k_call3 (pc := 5) C cv_X7_149 ct_X7_isFrom k_in7 rfl (by decide) rfl (Nat.le_of_ble_eq_true rfl) dX7_winters_5 ?_
  refine k_if_ne (pc := 8) C 18 dX7_winters_8 (by decide) (fun c8 => ?_) (fun c8 => ?_)
  · skip
    refine k_iconst (pc := 18) (v := 0) C dX7_winters_18 (by decide) ?_
    refine k_istore_2 (pc := 19) C dX7_winters_19 rfl ?_
    refine k_iconst (pc := 20) (v := 0) C dX7_winters_20 (by decide) ?_
    refine k_istore_3 (pc := 21) C dX7_winters_21 rfl ?_
    refine k_cast (L' := [vR (7, 0, 0), vI n, vI ((f_X7_wiL mi nC nB 0).1), vI (nI 0), vU]) (mi' := (f_X7_wiL mi nC nB 0).2) (ml' := ml) rfl rfl rfl ?_
    refine k_down (P := fun j => k_V p l e (k_rm 4) s m args below meth c D cy ad bs k_KS k_R0 0 0 (k_End below D cy ad bs k_KS k_R0 (k_rt (some (vI (f_X7_winters mi n nC nB).1)) (f_X7_winters mi n nC nB).2 ml) args s) ((f_X7_wiL mi nC nB j).2) ml 22 [vR (7, 0, 0), vI n, vI ((f_X7_wiL mi nC nB j).1), vI (nI j), vU] []) n.toNatClampNeg ?_ (fun j hj hk => ?_)
    · skip
      refine k_iload_n (pc := 22) C dX7_winters_22 rfl ?_
      refine k_iload_n (pc := 23) C dX7_winters_23 rfl ?_
      refine k_icmp_geT (pc := 24) C 93 dX7_winters_24 (by decide) (k_leN (isFrom_nn (by assumption) (by decide))) ?_
      refine k_iload_n (pc := 93) C dX7_winters_93 rfl ?_
      exact k_iret (pc := 94) C rfl  (k_fIm (by unfold f_X7_winters; rw [if_neg c8]; try rfl)) dX7_winters_94
    · skip
      try dsimp only at hk
      have hmj : k_mo nC nB ((f_X7_wiL mi nC nB j).2) := mo_wiL hm j
      refine k_iload_n (pc := 22) C dX7_winters_22 rfl ?_
      refine k_iload_n (pc := 23) C dX7_winters_23 rfl ?_
      refine k_icmp_geF (pc := 24) C 93 dX7_winters_24 (by decide) (k_ngeN (isFrom_nn (by assumption) (by decide)) hj) ?_
      refine k_iconst (pc := 27) (v := 0) C dX7_winters_27 (by decide) ?_
      refine k_istore_4 (pc := 28) C dX7_winters_28 rfl ?_
      refine k_cast (L' := [vR (7, 0, 0), vI n, vI ((f_X7_wiL mi nC nB j).1), vI (nI j), vI (nI 0)]) (mi' := f_X7_wiC ((f_X7_wiL mi nC nB j).2) 0) (ml' := ml) rfl rfl rfl ?_
      refine k_down (P := fun c2 => k_V p l e (k_rm 4) s m args below meth c D cy ad bs k_KS k_R0 0 0 (k_End below D cy ad bs k_KS k_R0 (k_rt (some (vI (f_X7_winters mi n nC nB).1)) (f_X7_winters mi n nC nB).2 ml) args s) (f_X7_wiC ((f_X7_wiL mi nC nB j).2) c2) ml 30 [vR (7, 0, 0), vI n, vI ((f_X7_wiL mi nC nB j).1), vI (nI j), vI (nI c2)] []) nC ?_ (fun c2 hc2 hkc2 => ?_)
      · skip
        have hwc : k_mo nC nB (f_X7_wiC ((f_X7_wiL mi nC nB j).2) nC) := mo_wiC hmj nC
        refine k_iload (pc := 30) C dX7_winters_30 rfl ?_
        refine k_aload_n (pc := 32) C dX7_winters_32 rfl ?_
        refine k_getI (pc := 33) C fl_X7_129 k_in7 rfl rfl dX7_winters_33 ?_
        refine k_icmp_geT (pc := 36) C 76 dX7_winters_36 (by decide) (k_leC hwc.1) ?_
        refine k_aload_n (pc := 76) C dX7_winters_76 rfl ?_
        refine k_callv0 (pc := 77) C cv_X7_242 (ct_X7_passes hwc) k_in7 rfl (by decide) rfl (Nat.le_of_ble_eq_true rfl) dX7_winters_77 ?_
        refine k_iload_n (pc := 80) C dX7_winters_80 rfl ?_
        refine k_aload_n (pc := 81) C dX7_winters_81 rfl ?_
        refine k_getI (pc := 82) C fl_X7_227 k_in7 rfl rfl dX7_winters_82 ?_
        refine k_iadd (pc := 85) C dX7_winters_85 ?_
        refine k_istore_2 (pc := 86) C dX7_winters_86 rfl ?_
        refine k_iinc_3 (pc := 87) (v := nI (j + 1)) C dX7_winters_87 (k_inc j) rfl ?_
        refine k_goto (pc := 90) C 22 dX7_winters_90 (by decide) ?_
        refine k_drop_4 ?_
        exact k_cast (by rw [f_X7_wiL_s]) (by rw [f_X7_wiL_s]) rfl hk
      · skip
        try dsimp only at hkc2
        have hwc : k_mo nC nB (f_X7_wiC ((f_X7_wiL mi nC nB j).2) c2) := mo_wiC hmj c2
        refine k_iload (pc := 30) C dX7_winters_30 rfl ?_
        refine k_aload_n (pc := 32) C dX7_winters_32 rfl ?_
        refine k_getI (pc := 33) C fl_X7_129 k_in7 rfl rfl dX7_winters_33 ?_
        refine k_icmp_geF (pc := 36) C 76 dX7_winters_36 (by decide) (k_ngeC hwc.1 h6 hc2) ?_
        refine k_aload_n (pc := 39) C dX7_winters_39 rfl ?_
        refine k_getR (pc := 40) (r := some (8, 12, 0)) C fl_X7_38 k_in7 rfl rfl rfl dX7_winters_40 ?_
        refine k_iload (pc := 43) C dX7_winters_43 rfl ?_
        refine k_aload_n (pc := 45) C dX7_winters_45 rfl ?_
        refine k_bipush (pc := 46) (v := 10) C dX7_winters_46 (by decide) ?_
        refine k_call1 (pc := 48) C cv_X7_272 (ct_X7_draw (by decide)) k_in7 rfl (by decide) rfl (Nat.le_of_ble_eq_true rfl) dX7_winters_48 ?_
        refine k_aload_n (pc := 51) C dX7_winters_51 rfl ?_
        refine k_getR (pc := 52) (r := some (8, 10, 0)) C fl_X7_32 k_in7 rfl rfl rfl dX7_winters_52 ?_
        refine k_iload (pc := 55) C dX7_winters_55 rfl ?_
        refine k_ialdX (pc := 57) (j := c2) C (nI_clamp (by omega)) (by decide +kernel) rfl (vp_in_nI (show _ < (6 : Nat) by omega) (show (6 : Nat) < 2 ^ 31 by decide)) dX7_winters_57 ?_
        refine k_bipush (pc := 58) (v := 10) C dX7_winters_58 (by decide) ?_
        refine k_idiv (pc := 60) C dX7_winters_60 (by decide) ?_
        refine k_icmp_ge (pc := 61) C 68 dX7_winters_61 (by decide) (fun c61 => ?_) (fun c61 => ?_)
        · skip
          refine k_iconst (pc := 68) (v := 0) C dX7_winters_68 (by decide) ?_
          refine k_iastX (pc := 69) (j := c2) C (nI_clamp (by omega)) (by decide +kernel) rfl (vp_in_nI (show _ < (6 : Nat) by omega) (show (6 : Nat) < 2 ^ 31 by decide)) dX7_winters_69 ?_
          refine k_iinc_4 (pc := 70) (v := nI (c2 + 1)) C dX7_winters_70 (k_inc c2) rfl ?_
          refine k_goto (pc := 73) C 30 dX7_winters_73 (by decide) ?_
          exact k_cast rfl (by rw [f_X7_wiC_s, if_pos c61]) rfl hkc2
        · skip
          refine k_iconst (pc := 64) (v := 1) C dX7_winters_64 (by decide) ?_
          refine k_goto (pc := 65) C 69 dX7_winters_65 (by decide) ?_
          refine k_iastX (pc := 69) (j := c2) C (nI_clamp (by omega)) (by decide +kernel) rfl (vp_in_nI (show _ < (6 : Nat) by omega) (show (6 : Nat) < 2 ^ 31 by decide)) dX7_winters_69 ?_
          refine k_iinc_4 (pc := 70) (v := nI (c2 + 1)) C dX7_winters_70 (k_inc c2) rfl ?_
          refine k_goto (pc := 73) C 30 dX7_winters_73 (by decide) ?_
          exact k_cast rfl (by rw [f_X7_wiC_s, if_neg c61]) rfl hkc2
  · skip
    refine k_aload_n (pc := 11) C dX7_winters_11 rfl ?_
    refine k_bipush (pc := 12) (v := (-6)) C dX7_winters_12 (by decide) ?_
    refine k_call1 (pc := 14) C cv_X7_139 (ct_X7_no (k_vd (by decide))) k_in7 rfl (by decide) rfl (Nat.le_of_ble_eq_true rfl) dX7_winters_14 ?_
    exact k_iret (pc := 17) C rfl  (k_fIm (by unfold f_X7_winters; rw [if_pos c8]; try rfl)) dX7_winters_17
