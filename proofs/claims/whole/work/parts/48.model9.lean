/-! Model: coming to rest; rows; what stands -/
theorem k_dec (n : Nat) : nI (n + 1) + (-1) = nI n := by
  rw [nI_succ, Int32.add_assoc, show (1 : Int32) + -1 = 0 from by decide, Int32.add_zero]
/-- the least who does not hide, from behind -/
def f_X7_ra1 (mi : MemI) : Nat → Nat → Nat
  | 0, fs => fs
  | n + 1, fs => if mi (8, 12, 0) n = 0 then f_X7_ra1 mi n n else f_X7_ra1 mi n fs
theorem f_X7_ra1_s (mi : MemI) (n fs : Nat) : f_X7_ra1 mi (n + 1) fs = if mi (8, 12, 0) n = 0 then f_X7_ra1 mi n n else f_X7_ra1 mi n fs := rfl
theorem ra1_lt {mi : MemI} {nC : Nat} : ∀ n fs, n ≤ nC → (fs < nC ∨ ¬ fs < 6) → f_X7_ra1 mi n fs < nC ∨ ¬ f_X7_ra1 mi n fs < 6 := by
  intro n
  induction n with
  | zero => intro fs _ h; exact h
  | succ n ih =>
    intro fs hn h
    rw [f_X7_ra1_s]
    split
    · exact ih n (by omega) (Or.inl (by omega))
    · exact ih fs (by omega) h
theorem rs_dR {nC cm : Nat} {mi : MemI} (h : k_rs nC cm mi) : k_rs nC cm (f_X7_doesRound mi nC cm).2 := rs_drL h cm (Nat.le_refl _)
def f_X7_ra3 (mi : MemI) (w : Nat) : Nat → MemI
  | 0 => mi
  | j + 1 =>
    k_ui (f_X7_ra3 mi w j) (8, 45, 0) j (nI w)
theorem f_X7_ra3_s (mi : MemI) (w : Nat) (j : Nat) : f_X7_ra3 mi w (j + 1) =
    k_ui (f_X7_ra3 mi w j) (8, 45, 0) j (nI w) := rfl
theorem ra3_fr {mi : MemI} {w : Nat} {k : Ky} (h1 : k ≠ (8, 45, 0)) : ∀ j q, f_X7_ra3 mi w j k q = mi k q := by
  intro j q
  induction j with
  | zero => rfl
  | succ j ih => rw [f_X7_ra3_s, k_uk h1]; exact ih
theorem ra3_at {mi : MemI} {w i : Nat} : ∀ j, i < j → f_X7_ra3 mi w j (8, 45, 0) i = nI w := by
  intro j
  induction j with
  | zero => intro h; omega
  | succ j ih =>
    intro h
    rw [f_X7_ra3_s]
    by_cases e : i = j
    · subst e; rw [k_uis]
    · rw [k_uj e]; exact ih (by omega)
def f_X7_ra2 (mi : MemI) (w : Nat) : Nat → MemI
  | 0 => mi
  | j + 1 =>
    if (nI j) = (nI w) then k_ui (f_X7_ra2 mi w j) (8, 47, 0) j ((f_X7_ra2 mi w j) (7, 0, 0) 48)
    else k_ui (f_X7_ra2 mi w j) (8, 47, 0) j 0
theorem f_X7_ra2_s (mi : MemI) (w : Nat) (j : Nat) : f_X7_ra2 mi w (j + 1) =
    if (nI j) = (nI w) then k_ui (f_X7_ra2 mi w j) (8, 47, 0) j ((f_X7_ra2 mi w j) (7, 0, 0) 48)
    else k_ui (f_X7_ra2 mi w j) (8, 47, 0) j 0 := rfl
theorem ra2_fr {mi : MemI} {w : Nat} {k : Ky} (h1 : k ≠ (8, 47, 0)) : ∀ j q, f_X7_ra2 mi w j k q = mi k q := by
  intro j q
  induction j with
  | zero => rfl
  | succ j ih =>
    rw [f_X7_ra2_s]
    split <;> (rw [k_uk h1]; exact ih)
theorem ra2_at {mi : MemI} {w c : Nat} : ∀ j, c < j → f_X7_ra2 mi w j (8, 47, 0) c = if nI c = nI w then mi (7, 0, 0) 48 else 0 := by
  intro j
  induction j with
  | zero => intro h; omega
  | succ j ih =>
    intro h
    rw [f_X7_ra2_s]
    by_cases e : c = j
    · subst e
      rw [ra2_fr (by decide)]
      split <;> rw [k_uis]
    · split <;> (rw [k_uj e]; exact ih (by omega))
theorem k_cnt_all {mi : MemI} {w c : Nat} (hw : w < 6) (hc : c < 6) : ∀ n, (∀ i, i < n → mi (8, 45, 0) i = nI w) → k_cnt mi c n = if c = w then n else 0 := by
  intro n
  induction n with
  | zero => intro _; simp [k_cnt]
  | succ n ih =>
    intro h
    simp only [k_cnt]
    rw [h n (by omega), ih (fun i hi => h i (by omega))]
    by_cases e : c = w
    · subst e; simp
    · rw [if_neg (fun q => e (nI_inj6 (by omega) (by omega) q).symm), if_neg e, if_neg e]
theorem rs_init {mi : MemI} {nC cm w : Nat} (hp : k_pt nC cm mi) (hw : w < nC) : k_rs nC cm (f_X7_ra3 (f_X7_ra2 mi w 6) w cm) := by
  obtain ⟨a1, a2, a3, a4, a5⟩ := hp
  refine ⟨⟨?_, a2, ?_, a4, fun i hi => ?_⟩, fun i hi => ?_, fun c hc => ?_⟩
  · rw [ra3_fr (by decide), ra2_fr (by decide)]; exact a1
  · rw [ra3_fr (by decide), ra2_fr (by decide)]; exact a3
  · rw [ra3_fr (by decide), ra2_fr (by decide)]; exact a5 i hi
  · rw [ra3_at cm hi]; exact vp_in_nI hw (by omega)
  · rw [ra3_fr (by decide), ra2_at 6 hc, k_cnt_all (w := w) (by omega) hc cm (fun i hi => ra3_at cm hi), a3]
    by_cases e : c = w
    · subst e; rw [if_pos rfl, if_pos rfl]
    · rw [if_neg (fun q => e (nI_inj6 (by omega) (by omega) q)), if_neg e]; rfl
def f_X7_raR (nC cm : Nat) : Nat → Nat → MemI → Int32 × MemI
  | 0, _, m0 => ((-1), m0)
  | u + 1, j, m0 =>
    if ((f_X7_doesRound m0 nC cm).1) = 0 then (nI j, (f_X7_doesRound m0 nC cm).2)
    else f_X7_raR nC cm u (j + 1) ((f_X7_doesRound m0 nC cm).2)
theorem f_X7_raR_s (nC cm u j : Nat) (m0 : MemI) : f_X7_raR nC cm (u + 1) j m0 =
    if ((f_X7_doesRound m0 nC cm).1) = 0 then (nI j, (f_X7_doesRound m0 nC cm).2)
    else f_X7_raR nC cm u (j + 1) ((f_X7_doesRound m0 nC cm).2) := rfl
def f_X7_restsAfter (mi : MemI) (nC : Nat) (cm : Nat) : Int32 × MemI :=
  if (f_X7_ra1 mi nC 6) < 6 then f_X7_raR nC cm 21 0 (f_X7_ra3 (f_X7_ra2 mi (f_X7_ra1 mi nC 6) 6) (f_X7_ra1 mi nC 6) cm)
  else ((-1), mi)
set_option maxRecDepth 100000 in
set_option maxHeartbeats 4000000 in
theorem ct_X7_restsAfter {mi : MemI} {ml : MemL} {nC : Nat} {cm : Nat} (hp : k_pt nC cm mi) : k_Ct k_KS k_R0 Mt_X7_restsAfter 2 [vR (7, 0, 0)] mi ml (k_rt (some (vI (f_X7_restsAfter mi nC cm).1)) (f_X7_restsAfter mi nC cm).2 ml) := by
  refine k_ofV (L0 := [vR (7, 0, 0), vU, vU]) (by decide +kernel) (Nat.le_of_ble_eq_true rfl) rfl rfl ?_
  intro p l e s m args below meth c D cy ad bs C
  have h6 := hp.2.1
  have hc6 := hp.2.2.2.1
  refine k_iconst (pc := 0) (v := (-1)) C dX7_restsAfter_0 (by decide) ?_
  refine k_istore_1 (pc := 1) C dX7_restsAfter_1 rfl ?_
  refine k_aload_n (pc := 2) C dX7_restsAfter_2 rfl ?_
  refine k_getI (pc := 3) C fl_X7_129 k_in7 rfl rfl dX7_restsAfter_3 ?_
  refine k_iconst (pc := 6) (v := 1) C dX7_restsAfter_6 (by decide) ?_
  refine k_isub (pc := 7) C dX7_restsAfter_7 ?_
  refine k_istore_2 (pc := 8) C dX7_restsAfter_8 rfl ?_
  have hloop : ∀ (n fs : Nat), n ≤ nC → f_X7_ra1 mi n fs = (f_X7_ra1 mi nC 6) → k_V p l e (k_rm 2) s m args below meth c D cy ad bs k_KS k_R0 0 0 (k_End below D cy ad bs k_KS k_R0 (k_rt (some (vI (f_X7_restsAfter mi nC cm).1)) (f_X7_restsAfter mi nC cm).2 ml) args s) mi ml 9 [vR (7, 0, 0), vI (k_op fs), vI (nI n + (-1))] [] := by
    intro n
    induction n with
    | zero =>
      intro fs hn hres
      have hfs : fs = (f_X7_ra1 mi nC 6) := hres
      rw [hfs]
      by_cases hR : (f_X7_ra1 mi nC 6) < 6
      · have hRC : (f_X7_ra1 mi nC 6) < nC := (ra1_lt nC 6 (Nat.le_refl _) (Or.inr (Nat.lt_irrefl 6))).resolve_right (fun q => q hR)
        refine k_cast (L' := [vR (7, 0, 0), vI (nI (f_X7_ra1 mi nC 6)), vI (-1)]) (by rw [k_op_s hR, show nI 0 + (-1) = (-1 : Int32) from by decide]) rfl rfl ?_
        refine k_iload_n (pc := 9) C dX7_restsAfter_9 rfl ?_
        refine k_if_ltT (pc := 10) C 30 dX7_restsAfter_10 (by decide) (by decide) ?_
        refine k_iload_n (pc := 30) C dX7_restsAfter_30 rfl ?_
        refine k_iconst (pc := 31) (v := (-1)) C dX7_restsAfter_31 (by decide) ?_
        refine k_icmp_neT (pc := 32) C 37 dX7_restsAfter_32 (by decide) (k_nIne (by first | assumption | omega)) ?_
        refine k_iconst (pc := 37) (v := 0) C dX7_restsAfter_37 (by decide) ?_
        refine k_istore_2 (pc := 38) C dX7_restsAfter_38 rfl ?_
        refine k_cast (L' := [vR (7, 0, 0), vI (nI (f_X7_ra1 mi nC 6)), vI (nI 0)]) (mi' := f_X7_ra2 mi (f_X7_ra1 mi nC 6) 0) (ml' := ml) rfl rfl rfl ?_
        refine k_down (P := fun j => k_V p l e (k_rm 2) s m args below meth c D cy ad bs k_KS k_R0 0 0 (k_End below D cy ad bs k_KS k_R0 (k_rt (some (vI (f_X7_restsAfter mi nC cm).1)) (f_X7_restsAfter mi nC cm).2 ml) args s) (f_X7_ra2 mi (f_X7_ra1 mi nC 6) j) ml 39 [vR (7, 0, 0), vI (nI (f_X7_ra1 mi nC 6)), vI (nI j)] []) 6 ?_ (fun j hj hk => ?_)
        · skip
          refine k_iload_n (pc := 39) C dX7_restsAfter_39 rfl ?_
          refine k_bipush (pc := 40) (v := 6) C dX7_restsAfter_40 (by decide) ?_
          refine k_icmp_geT (pc := 42) C 70 dX7_restsAfter_42 (by decide) (by decide) ?_
          refine k_iconst (pc := 70) (v := 0) C dX7_restsAfter_70 (by decide) ?_
          refine k_istore_2 (pc := 71) C dX7_restsAfter_71 rfl ?_
          refine k_cast (L' := [vR (7, 0, 0), vI (nI (f_X7_ra1 mi nC 6)), vI (nI 0)]) (mi' := f_X7_ra3 (f_X7_ra2 mi (f_X7_ra1 mi nC 6) 6) (f_X7_ra1 mi nC 6) 0) (ml' := ml) rfl rfl rfl ?_
          refine k_down (P := fun j => k_V p l e (k_rm 2) s m args below meth c D cy ad bs k_KS k_R0 0 0 (k_End below D cy ad bs k_KS k_R0 (k_rt (some (vI (f_X7_restsAfter mi nC cm).1)) (f_X7_restsAfter mi nC cm).2 ml) args s) (f_X7_ra3 (f_X7_ra2 mi (f_X7_ra1 mi nC 6) 6) (f_X7_ra1 mi nC 6) j) ml 72 [vR (7, 0, 0), vI (nI (f_X7_ra1 mi nC 6)), vI (nI j)] []) cm ?_ (fun j hj hk => ?_)
          · skip
            refine k_iload_n (pc := 72) C dX7_restsAfter_72 rfl ?_
            refine k_aload_n (pc := 73) C dX7_restsAfter_73 rfl ?_
            refine k_getI (pc := 74) C fl_X7_245 k_in7 rfl rfl dX7_restsAfter_74 ?_
            refine k_icmp_geT (pc := 77) C 93 dX7_restsAfter_77 (by decide) (k_leC ((ra3_fr (by decide) cm 48).trans ((ra2_fr (by decide) 6 48).trans hp.2.2.1))) ?_
            refine k_iconst (pc := 93) (v := 0) C dX7_restsAfter_93 (by decide) ?_
            refine k_istore_2 (pc := 94) C dX7_restsAfter_94 rfl ?_
            have hF : f_X7_restsAfter mi nC cm = f_X7_raR nC cm 21 0 (f_X7_ra3 (f_X7_ra2 mi (f_X7_ra1 mi nC 6) 6) (f_X7_ra1 mi nC 6) cm) := by unfold f_X7_restsAfter; rw [if_pos hR]
            rw [hF]
            refine k_drop_1 ?_
            have hloop : ∀ (u j : Nat) (m0 : MemI), j + u = 21 → k_rs nC cm m0 → f_X7_raR nC cm u j m0 = f_X7_raR nC cm 21 0 (f_X7_ra3 (f_X7_ra2 mi (f_X7_ra1 mi nC 6) 6) (f_X7_ra1 mi nC 6) cm) → k_V p l e (k_rm 2) s m args below meth c D cy ad bs k_KS k_R0 0 0 (k_End below D cy ad bs k_KS k_R0 (k_rt (some (vI (f_X7_raR nC cm 21 0 (f_X7_ra3 (f_X7_ra2 mi (f_X7_ra1 mi nC 6) 6) (f_X7_ra1 mi nC 6) cm)).1)) (f_X7_raR nC cm 21 0 (f_X7_ra3 (f_X7_ra2 mi (f_X7_ra1 mi nC 6) 6) (f_X7_ra1 mi nC 6) cm)).2 ml) args s) m0 ml 95 [vR (7, 0, 0), vU, vI (nI j)] [] := by
              intro u
              induction u with
              | zero =>
                intro j m0 hjn hrm hres
                refine k_iload_n (pc := 95) C dX7_restsAfter_95 rfl ?_
                refine k_bipush (pc := 96) (v := 20) C dX7_restsAfter_96 (by decide) ?_
                refine k_icmp_gtT (pc := 98) C 116 dX7_restsAfter_98 (by decide) (nI_lt (a := 20) (show 20 < j by omega) (by omega)) ?_
                refine k_iconst (pc := 116) (v := (-1)) C dX7_restsAfter_116 (by decide) ?_
                exact k_iret (pc := 117) C rfl (k_fIm (by rw [← hres]; rfl)) dX7_restsAfter_117
              | succ u ih =>
                intro j m0 hjn hrm hres
                have hj : j < 21 := by omega
                refine k_iload_n (pc := 95) C dX7_restsAfter_95 rfl ?_
                refine k_bipush (pc := 96) (v := 20) C dX7_restsAfter_96 (by decide) ?_
                refine k_icmp_gtF (pc := 98) C 116 dX7_restsAfter_98 (by decide) (nI_nlt (a := 20) (show j ≤ 20 by omega) (by omega)) ?_
                refine k_aload_n (pc := 101) C dX7_restsAfter_101 rfl ?_
                refine k_call0 (pc := 102) C cv_X7_262 (ct_X7_doesRound hrm) k_in7 rfl (by decide) rfl (Nat.le_of_ble_eq_true rfl) dX7_restsAfter_102 ?_
                refine k_if_ne (pc := 105) C 110 dX7_restsAfter_105 (by decide) (fun c105 => ?_) (fun c105 => ?_)
                · skip
                  refine k_iinc_2 (pc := 110) (v := nI (j + 1)) C dX7_restsAfter_110 (k_inc j) rfl ?_
                  refine k_goto (pc := 113) C 95 dX7_restsAfter_113 (by decide) ?_
                  exact ih (j + 1) ((f_X7_doesRound m0 nC cm).2) (by omega) (rs_dR hrm) (by rw [← hres, f_X7_raR_s, if_neg c105])
                · skip
                  refine k_iload_n (pc := 108) C dX7_restsAfter_108 rfl ?_
                  exact k_iret (pc := 109) C rfl (k_fIm (by rw [← hres, f_X7_raR_s, if_pos c105])) dX7_restsAfter_109
            exact hloop 21 0 (f_X7_ra3 (f_X7_ra2 mi (f_X7_ra1 mi nC 6) 6) (f_X7_ra1 mi nC 6) cm) (by omega) (rs_init hp hRC) rfl
          · skip
            try dsimp only at hk
            refine k_iload_n (pc := 72) C dX7_restsAfter_72 rfl ?_
            refine k_aload_n (pc := 73) C dX7_restsAfter_73 rfl ?_
            refine k_getI (pc := 74) C fl_X7_245 k_in7 rfl rfl dX7_restsAfter_74 ?_
            refine k_icmp_geF (pc := 77) C 93 dX7_restsAfter_77 (by decide) (k_ngeC ((ra3_fr (by decide) j 48).trans ((ra2_fr (by decide) 6 48).trans hp.2.2.1)) hc6 hj) ?_
            refine k_aload_n (pc := 80) C dX7_restsAfter_80 rfl ?_
            refine k_getR (pc := 81) (r := some (8, 45, 0)) C fl_X7_117 k_in7 rfl rfl rfl dX7_restsAfter_81 ?_
            refine k_iload_n (pc := 84) C dX7_restsAfter_84 rfl ?_
            refine k_iload_n (pc := 85) C dX7_restsAfter_85 rfl ?_
            refine k_iastX (pc := 86) (j := j) C (nI_clamp (by omega)) (by decide +kernel) rfl (vp_in_nI (show _ < (6 : Nat) by omega) (show (6 : Nat) < 2 ^ 31 by decide)) dX7_restsAfter_86 ?_
            refine k_iinc_2 (pc := 87) (v := nI (j + 1)) C dX7_restsAfter_87 (k_inc j) rfl ?_
            refine k_goto (pc := 90) C 72 dX7_restsAfter_90 (by decide) ?_
            exact k_cast rfl (by rw [f_X7_ra3_s]) rfl hk
        · skip
          try dsimp only at hk
          refine k_iload_n (pc := 39) C dX7_restsAfter_39 rfl ?_
          refine k_bipush (pc := 40) (v := 6) C dX7_restsAfter_40 (by decide) ?_
          refine k_icmp_geF (pc := 42) C 70 dX7_restsAfter_42 (by decide) (k_nge (n := 6) rfl (by decide) hj) ?_
          refine k_aload_n (pc := 45) C dX7_restsAfter_45 rfl ?_
          refine k_getR (pc := 46) (r := some (8, 47, 0)) C fl_X7_123 k_in7 rfl rfl rfl dX7_restsAfter_46 ?_
          refine k_iload_n (pc := 49) C dX7_restsAfter_49 rfl ?_
          refine k_iload_n (pc := 50) C dX7_restsAfter_50 rfl ?_
          refine k_iload_n (pc := 51) C dX7_restsAfter_51 rfl ?_
          refine k_icmp_ne (pc := 52) C 62 dX7_restsAfter_52 (by decide) (fun c52 => ?_) (fun c52 => ?_)
          · skip
            refine k_iconst (pc := 62) (v := 0) C dX7_restsAfter_62 (by decide) ?_
            refine k_iastX (pc := 63) (j := j) C (nI_clamp (by omega)) (by decide +kernel) rfl (vp_in_nI (show _ < (6 : Nat) by omega) (show (6 : Nat) < 2 ^ 31 by decide)) dX7_restsAfter_63 ?_
            refine k_iinc_2 (pc := 64) (v := nI (j + 1)) C dX7_restsAfter_64 (k_inc j) rfl ?_
            refine k_goto (pc := 67) C 39 dX7_restsAfter_67 (by decide) ?_
            exact k_cast rfl (by rw [f_X7_ra2_s, if_neg c52]) rfl hk
          · skip
            refine k_aload_n (pc := 55) C dX7_restsAfter_55 rfl ?_
            refine k_getI (pc := 56) C fl_X7_245 k_in7 rfl rfl dX7_restsAfter_56 ?_
            refine k_goto (pc := 59) C 63 dX7_restsAfter_59 (by decide) ?_
            refine k_iastX (pc := 63) (j := j) C (nI_clamp (by omega)) (by decide +kernel) rfl (vp_in_nI (show _ < (6 : Nat) by omega) (show (6 : Nat) < 2 ^ 31 by decide)) dX7_restsAfter_63 ?_
            refine k_iinc_2 (pc := 64) (v := nI (j + 1)) C dX7_restsAfter_64 (k_inc j) rfl ?_
            refine k_goto (pc := 67) C 39 dX7_restsAfter_67 (by decide) ?_
            exact k_cast rfl (by rw [f_X7_ra2_s, if_pos c52]) rfl hk
      · skip
        refine k_cast (L' := [vR (7, 0, 0), vI (-1), vI (-1)]) (by rw [k_op_n hR, show nI 0 + (-1) = (-1 : Int32) from by decide]) rfl rfl ?_
        refine k_iload_n (pc := 9) C dX7_restsAfter_9 rfl ?_
        refine k_if_ltT (pc := 10) C 30 dX7_restsAfter_10 (by decide) (by decide) ?_
        refine k_iload_n (pc := 30) C dX7_restsAfter_30 rfl ?_
        refine k_iconst (pc := 31) (v := (-1)) C dX7_restsAfter_31 (by decide) ?_
        refine k_icmp_neF (pc := 32) C 37 dX7_restsAfter_32 (by decide) (by decide) ?_
        refine k_iconst (pc := 35) (v := (-1)) C dX7_restsAfter_35 (by decide) ?_
        exact k_iret (pc := 36) C rfl  (k_fIm (by unfold f_X7_restsAfter; rw [if_neg hR]; try rfl)) dX7_restsAfter_36
    | succ n ih =>
      intro fs hn hres
      refine k_cast (L' := [vR (7, 0, 0), vI (k_op fs), vI (nI n)]) (by rw [k_dec]) rfl rfl ?_
      refine k_iload_n (pc := 9) C dX7_restsAfter_9 rfl ?_
      refine k_if_ltF (pc := 10) C 30 dX7_restsAfter_10 (by decide) (nI_pos (by omega)) ?_
      refine k_aload_n (pc := 13) C dX7_restsAfter_13 rfl ?_
      refine k_getR (pc := 14) (r := some (8, 12, 0)) C fl_X7_38 k_in7 rfl rfl rfl dX7_restsAfter_14 ?_
      refine k_iload_n (pc := 17) C dX7_restsAfter_17 rfl ?_
      refine k_ialdX (pc := 18) (j := n) C (nI_clamp (by omega)) (by decide +kernel) rfl (vp_in_nI (show _ < (6 : Nat) by omega) (show (6 : Nat) < 2 ^ 31 by decide)) dX7_restsAfter_18 ?_
      refine k_if_ne (pc := 19) C 24 dX7_restsAfter_19 (by decide) (fun c19 => ?_) (fun c19 => ?_)
      · skip
        refine k_iinc_2 (pc := 24) (v := (nI n) + (-1)) C dX7_restsAfter_24 rfl rfl ?_
        refine k_goto (pc := 27) C 9 dX7_restsAfter_27 (by decide) ?_
        exact k_cast (L' := [vR (7, 0, 0), vI (k_op fs), vI ((nI n) + (-1))]) rfl rfl rfl (ih fs (by omega) (by rw [← hres, f_X7_ra1_s, if_neg c19]))
      · skip
        refine k_iload_n (pc := 22) C dX7_restsAfter_22 rfl ?_
        refine k_istore_1 (pc := 23) C dX7_restsAfter_23 rfl ?_
        refine k_iinc_2 (pc := 24) (v := (nI n) + (-1)) C dX7_restsAfter_24 rfl rfl ?_
        refine k_goto (pc := 27) C 9 dX7_restsAfter_27 (by decide) ?_
        exact k_cast (L' := [vR (7, 0, 0), vI (k_op n), vI ((nI n) + (-1))]) (by rw [k_op_s (show n < 6 by omega)]) rfl rfl (ih n (by omega) (by rw [← hres, f_X7_ra1_s, if_pos c19]))
  exact k_cast (L' := [vR (7, 0, 0), vI (k_op 6), vI (nI nC + (-1))]) (by rw [hp.1, k_op_6, Int32.sub_eq_add_neg]) rfl rfl (hloop nC 6 (Nat.le_refl _) rfl)
