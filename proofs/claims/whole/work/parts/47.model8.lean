/-! Model: what was told, and where each comes to rest -/
theorem wanted_s {mi : MemI} {s0 : Int32} (h : f_X7_wanted mi s0 = 0) : vp_in s0 8 := by
  unfold f_X7_wanted at h
  split at h
  · exact absurd h (by decide)
  · exact isShelf_in (by assumption)
theorem wanted_in {mi : MemI} {s0 : Int32} (h : ¬ f_X7_wanted mi s0 = 0) : vp_in (-(f_X7_wanted mi s0)) 8 := by
  unfold f_X7_wanted at h ⊢
  repeat' split
  all_goals first | exact k_vd (by decide) | (exfalso; apply h; simp [*])
theorem k_n40 {n : Int32} (h : ¬ 40 < n) (h0 : ¬ n < 0) : n.toNatClampNeg ≤ 40 := by
  obtain ⟨q, hq, rfl⟩ := nI_of h0
  rw [nI_clamp hq]
  rcases Nat.lt_or_ge 40 q with h2 | h2
  · exact absurd (nI_lt (a := 40) h2 hq) h
  · exact h2
def f_X7_juR (mi : MemI) (ml : MemL) (s0 n : Int32) (cm : Nat) : Nat → Nat → Int32
  | 0, _ => if nI cm ≤ n then (-1) else n
  | u + 1, j => if nI j = nI cm then nI j else if f_X7_intAt mi ml s0 (nI j) = mi (8, 37, 0) ((mi (8, 44, 0) j).toNatClampNeg) then f_X7_juR mi ml s0 n cm u (j + 1) else nI j
theorem f_X7_juR_s (mi : MemI) (ml : MemL) (s0 n : Int32) (cm u j : Nat) : f_X7_juR mi ml s0 n cm (u + 1) j = if nI j = nI cm then nI j else if f_X7_intAt mi ml s0 (nI j) = mi (8, 37, 0) ((mi (8, 44, 0) j).toNatClampNeg) then f_X7_juR mi ml s0 n cm u (j + 1) else nI j := rfl
def f_X7_judge (mi : MemI) (ml : MemL) (s0 n : Int32) (nC nB : Nat) : Int32 × MemI :=
  if (f_X7_wanted mi s0) = 0 then if 0 ≤ n then if n ≤ (mi (8, 20, 0) s0.toNatClampNeg) then if n ≤ 40 then ((f_X7_juR (f_X7_files (f_X7_goes mi nC nB) nB) ml s0 n (f_X7_fc (f_X7_goes mi nC nB) nB) n.toNatClampNeg 0), f_X7_files (f_X7_goes mi nC nB) nB)
        else ((f_X7_noTen mi (-6)).1, (f_X7_noTen mi (-6)).2)
      else ((f_X7_noTen mi (-5)).1, (f_X7_noTen mi (-5)).2)
    else ((f_X7_noTen mi (-4)).1, (f_X7_noTen mi (-4)).2)
  else ((f_X7_noTen mi (f_X7_wanted mi s0)).1, (f_X7_noTen mi (f_X7_wanted mi s0)).2)
set_option maxRecDepth 100000 in
set_option maxHeartbeats 4000000 in
theorem ct_X7_judge {mi : MemI} {ml : MemL} {s0 n : Int32} {nC nB : Nat} (hm : k_mo nC nB mi) : k_Ct k_KS k_R0 Mt_X7_judge 3 [vR (7, 0, 0), vI s0, vI n] mi ml (k_rt (some (vI (f_X7_judge mi ml s0 n nC nB).1)) (f_X7_judge mi ml s0 n nC nB).2 ml) := by
  refine k_ofV (L0 := [vR (7, 0, 0), vI s0, vI n, vU, vU]) (by decide +kernel) (Nat.le_of_ble_eq_true rfl) rfl rfl ?_
  intro p l e s m args below meth c D cy ad bs C
  have hC := hm.1
  have h6 := hm.2.1
  have hB := hm.2.2.1
  have h6b := hm.2.2.2.1
  refine k_aload_n (pc := 0) C dX7_judge_0 rfl ?_
  refine k_iload_n (pc := 1) C dX7_judge_1 rfl ?_
  refine k_call1 (pc := 2) C cv_X7_210 ct_X7_wanted k_in7 rfl (by decide) rfl (Nat.le_of_ble_eq_true rfl) dX7_judge_2 ?_
  refine k_istore_3 (pc := 5) C dX7_judge_5 rfl ?_
  refine k_iload_n (pc := 6) C dX7_judge_6 rfl ?_
  refine k_if_ne (pc := 7) C 47 dX7_judge_7 (by decide) (fun c7 => ?_) (fun c7 => ?_)
  · skip
    have qc7 := wanted_in c7
    refine k_iload_n (pc := 47) C dX7_judge_47 rfl ?_
    refine k_if_eqF (pc := 48) C 57 dX7_judge_48 (by decide) c7 ?_
    refine k_aload_n (pc := 51) C dX7_judge_51 rfl ?_
    refine k_iload_n (pc := 52) C dX7_judge_52 rfl ?_
    refine k_call1 (pc := 53) C cv_X7_164 (ct_X7_noTen (by assumption)) k_in7 rfl (by decide) rfl (Nat.le_of_ble_eq_true rfl) dX7_judge_53 ?_
    exact k_iret (pc := 56) C rfl (k_fIm (by unfold f_X7_judge; rw [if_neg c7]; try rfl)) dX7_judge_56
  · skip
    have qc7 := wanted_s c7
    refine k_iload_n (pc := 10) C dX7_judge_10 rfl ?_
    refine k_if_ge (pc := 11) C 19 dX7_judge_11 (by decide) (fun c11 => ?_) (fun c11 => ?_)
    · skip
      refine k_iload_n (pc := 19) C dX7_judge_19 rfl ?_
      refine k_aload_n (pc := 20) C dX7_judge_20 rfl ?_
      refine k_getR (pc := 21) (r := some (8, 20, 0)) C fl_X7_62 k_in7 rfl rfl rfl dX7_judge_21 ?_
      refine k_iload_n (pc := 24) C dX7_judge_24 rfl ?_
      refine k_ialdX (pc := 25) (j := s0.toNatClampNeg) C rfl (by decide +kernel) rfl (by first | assumption | exact k_vin (N := 8) (n := 8) (by assumption) (by assumption) (by decide)) dX7_judge_25 ?_
      refine k_icmp_le (pc := 26) C 34 dX7_judge_26 (by decide) (fun c26 => ?_) (fun c26 => ?_)
      · skip
        refine k_iload_n (pc := 34) C dX7_judge_34 rfl ?_
        refine k_bipush (pc := 35) (v := 40) C dX7_judge_35 (by decide) ?_
        refine k_icmp_le (pc := 37) C 45 dX7_judge_37 (by decide) (fun c37 => ?_) (fun c37 => ?_)
        · skip
          refine k_iconst (pc := 45) (v := 0) C dX7_judge_45 (by decide) ?_
          refine k_istore_3 (pc := 46) C dX7_judge_46 rfl ?_
          refine k_iload_n (pc := 47) C dX7_judge_47 rfl ?_
          refine k_if_eqT (pc := 48) C 57 dX7_judge_48 (by decide) (by decide) ?_
          refine k_aload_n (pc := 57) C dX7_judge_57 rfl ?_
          refine k_callv0 (pc := 58) C cv_X7_236 (ct_X7_goes hm) k_in7 rfl (by decide) rfl (Nat.le_of_ble_eq_true rfl) dX7_judge_58 ?_
          refine k_aload_n (pc := 61) C dX7_judge_61 rfl ?_
          refine k_callv0 (pc := 62) C cv_X7_255 (ct_X7_files (mo_goes hm)) k_in7 rfl (by decide) rfl (Nat.le_of_ble_eq_true rfl) dX7_judge_62 ?_
          refine k_iconst (pc := 65) (v := 0) C dX7_judge_65 (by decide) ?_
          refine k_istore_4 (pc := 66) C dX7_judge_66 rfl ?_
          have hF : f_X7_judge mi ml s0 n nC nB = (f_X7_juR (f_X7_files (f_X7_goes mi nC nB) nB) ml s0 n (f_X7_fc (f_X7_goes mi nC nB) nB) n.toNatClampNeg 0, f_X7_files (f_X7_goes mi nC nB) nB) := by unfold f_X7_judge; rw [if_pos c7, if_pos c11, if_pos c26, if_pos c37]
          rw [hF]
          have hn0 : ¬ n < 0 := by first | exact Int32.not_lt.mpr c11 | exact c11
          have hn40 := k_n40 (Int32.not_lt.mpr c37) hn0
          have hcm := (pt_files (mo_goes hm)).2.2.2.1
          refine k_drop_3 ?_
          dsimp only
          have hloop : ∀ (u j : Nat), j + u = n.toNatClampNeg → j ≤ (f_X7_fc (f_X7_goes mi nC nB) nB) → f_X7_juR (f_X7_files (f_X7_goes mi nC nB) nB) ml s0 n (f_X7_fc (f_X7_goes mi nC nB) nB) u j = f_X7_juR (f_X7_files (f_X7_goes mi nC nB) nB) ml s0 n (f_X7_fc (f_X7_goes mi nC nB) nB) n.toNatClampNeg 0 → k_V p l e (k_rm 3) s m args below meth c D cy ad bs k_KS k_R0 0 0 (k_End below D cy ad bs k_KS k_R0 (k_rt (some (vI (f_X7_juR (f_X7_files (f_X7_goes mi nC nB) nB) ml s0 n (f_X7_fc (f_X7_goes mi nC nB) nB) n.toNatClampNeg 0))) (f_X7_files (f_X7_goes mi nC nB) nB) ml) args s) (f_X7_files (f_X7_goes mi nC nB) nB) ml 68 [vR (7, 0, 0), vI s0, vI n, vU, vI (nI j)] [] := by
            intro u
            induction u with
            | zero =>
              intro j hjn hjc hres
              have hjC : j = n.toNatClampNeg := (by omega); rw [hjC] at hres hjc ⊢
              refine k_iload (pc := 68) C dX7_judge_68 rfl ?_
              refine k_iload_n (pc := 70) C dX7_judge_70 rfl ?_
              refine k_icmp_geT (pc := 71) C 114 dX7_judge_71 (by decide) (k_leN hn0) ?_
              refine k_iload_n (pc := 114) C dX7_judge_114 rfl ?_
              refine k_aload_n (pc := 115) C dX7_judge_115 rfl ?_
              refine k_getI (pc := 116) C fl_X7_245 k_in7 rfl rfl dX7_judge_116 ?_
              refine k_sx (x := nI (f_X7_fc (f_X7_goes mi nC nB) nB)) (files_c) ?_
              refine k_icmp_ge (pc := 119) C 126 dX7_judge_119 (by decide) (fun c119 => ?_) (fun c119 => ?_)
              · skip
                refine k_iconst (pc := 126) (v := (-1)) C dX7_judge_126 (by decide) ?_
                exact k_iret (pc := 127) C rfl (k_fI (by rw [← hres]; unfold f_X7_juR; rw [if_pos c119])) dX7_judge_127
              · skip
                refine k_iload_n (pc := 122) C dX7_judge_122 rfl ?_
                refine k_goto (pc := 123) C 127 dX7_judge_123 (by decide) ?_
                exact k_iret (pc := 127) C rfl (k_fI (by rw [← hres]; unfold f_X7_juR; rw [if_neg c119])) dX7_judge_127
            | succ u ih =>
              intro j hjn hjc hres
              have hj : j < n.toNatClampNeg := by omega
              refine k_iload (pc := 68) C dX7_judge_68 rfl ?_
              refine k_iload_n (pc := 70) C dX7_judge_70 rfl ?_
              refine k_icmp_geF (pc := 71) C 114 dX7_judge_71 (by decide) (k_ngeN hn0 hj) ?_
              refine k_iload (pc := 74) C dX7_judge_74 rfl ?_
              refine k_aload_n (pc := 76) C dX7_judge_76 rfl ?_
              refine k_getI (pc := 77) C fl_X7_245 k_in7 rfl rfl dX7_judge_77 ?_
              refine k_sx (x := nI (f_X7_fc (f_X7_goes mi nC nB) nB)) (files_c) ?_
              refine k_icmp_eq (pc := 80) C 105 dX7_judge_80 (by decide) (fun c80 => ?_) (fun c80 => ?_)
              · skip
                refine k_iload (pc := 105) C dX7_judge_105 rfl ?_
                exact k_iret (pc := 107) C rfl (k_fI (by rw [← hres, f_X7_juR_s, if_pos c80])) dX7_judge_107
              · skip
                have hjc2 : j < (f_X7_fc (f_X7_goes mi nC nB) nB) := Nat.lt_of_le_of_ne hjc (fun q => c80 (congrArg nI q))
                have hfj := (pt_files (mo_goes hm)).2.2.2.2 j hjc2
                refine k_aload_n (pc := 83) C dX7_judge_83 rfl ?_
                refine k_iload_n (pc := 84) C dX7_judge_84 rfl ?_
                refine k_iload (pc := 85) C dX7_judge_85 rfl ?_
                refine k_call2 (pc := 87) C cv_X7_268 (ct_X7_intAt (by assumption) (vp_in_nI (by omega) (by decide))) k_in7 rfl (by decide) rfl (Nat.le_of_ble_eq_true rfl) dX7_judge_87 ?_
                refine k_aload_n (pc := 90) C dX7_judge_90 rfl ?_
                refine k_getR (pc := 91) (r := some (8, 37, 0)) C fl_X7_99 k_in7 rfl rfl rfl dX7_judge_91 ?_
                refine k_aload_n (pc := 94) C dX7_judge_94 rfl ?_
                refine k_getR (pc := 95) (r := some (8, 44, 0)) C fl_X7_114 k_in7 rfl rfl rfl dX7_judge_95 ?_
                refine k_iload (pc := 98) C dX7_judge_98 rfl ?_
                refine k_ialdX (pc := 100) (j := j) C (nI_clamp (by omega)) (by decide +kernel) rfl (vp_in_nI (show _ < (6 : Nat) by omega) (show (6 : Nat) < 2 ^ 31 by decide)) dX7_judge_100 ?_
                refine k_ialdX (pc := 101) (j := ((f_X7_files (f_X7_goes mi nC nB) nB) (8, 44, 0) j).toNatClampNeg) C rfl (by decide +kernel) rfl hfj dX7_judge_101 ?_
                refine k_icmp_eq (pc := 102) C 108 dX7_judge_102 (by decide) (fun c102 => ?_) (fun c102 => ?_)
                · skip
                  refine k_iinc_4 (pc := 108) (v := nI (j + 1)) C dX7_judge_108 (k_inc j) rfl ?_
                  refine k_goto (pc := 111) C 68 dX7_judge_111 (by decide) ?_
                  exact ih (j + 1) (by omega) (by omega) (by rw [← hres, f_X7_juR_s, if_neg c80, if_pos c102])
                · skip
                  refine k_iload (pc := 105) C dX7_judge_105 rfl ?_
                  exact k_iret (pc := 107) C rfl (k_fI (by rw [← hres, f_X7_juR_s, if_neg c80, if_neg c102])) dX7_judge_107
          exact hloop n.toNatClampNeg 0 (by omega) (Nat.zero_le _) rfl
        · skip
          refine k_bipush (pc := 40) (v := (-6)) C dX7_judge_40 (by decide) ?_
          refine k_goto (pc := 42) C 46 dX7_judge_42 (by decide) ?_
          refine k_istore_3 (pc := 46) C dX7_judge_46 rfl ?_
          refine k_iload_n (pc := 47) C dX7_judge_47 rfl ?_
          refine k_if_eqF (pc := 48) C 57 dX7_judge_48 (by decide) (by decide) ?_
          refine k_aload_n (pc := 51) C dX7_judge_51 rfl ?_
          refine k_iload_n (pc := 52) C dX7_judge_52 rfl ?_
          refine k_call1 (pc := 53) C cv_X7_164 (ct_X7_noTen (k_vd (by decide))) k_in7 rfl (by decide) rfl (Nat.le_of_ble_eq_true rfl) dX7_judge_53 ?_
          exact k_iret (pc := 56) C rfl (k_fIm (by unfold f_X7_judge; rw [if_pos c7, if_pos c11, if_pos c26, if_neg c37]; try rfl)) dX7_judge_56
      · skip
        refine k_bipush (pc := 29) (v := (-5)) C dX7_judge_29 (by decide) ?_
        refine k_goto (pc := 31) C 46 dX7_judge_31 (by decide) ?_
        refine k_istore_3 (pc := 46) C dX7_judge_46 rfl ?_
        refine k_iload_n (pc := 47) C dX7_judge_47 rfl ?_
        refine k_if_eqF (pc := 48) C 57 dX7_judge_48 (by decide) (by decide) ?_
        refine k_aload_n (pc := 51) C dX7_judge_51 rfl ?_
        refine k_iload_n (pc := 52) C dX7_judge_52 rfl ?_
        refine k_call1 (pc := 53) C cv_X7_164 (ct_X7_noTen (k_vd (by decide))) k_in7 rfl (by decide) rfl (Nat.le_of_ble_eq_true rfl) dX7_judge_53 ?_
        exact k_iret (pc := 56) C rfl (k_fIm (by unfold f_X7_judge; rw [if_pos c7, if_pos c11, if_neg c26]; try rfl)) dX7_judge_56
    · skip
      refine k_bipush (pc := 14) (v := (-4)) C dX7_judge_14 (by decide) ?_
      refine k_goto (pc := 16) C 46 dX7_judge_16 (by decide) ?_
      refine k_istore_3 (pc := 46) C dX7_judge_46 rfl ?_
      refine k_iload_n (pc := 47) C dX7_judge_47 rfl ?_
      refine k_if_eqF (pc := 48) C 57 dX7_judge_48 (by decide) (by decide) ?_
      refine k_aload_n (pc := 51) C dX7_judge_51 rfl ?_
      refine k_iload_n (pc := 52) C dX7_judge_52 rfl ?_
      refine k_call1 (pc := 53) C cv_X7_164 (ct_X7_noTen (k_vd (by decide))) k_in7 rfl (by decide) rfl (Nat.le_of_ble_eq_true rfl) dX7_judge_53 ?_
      exact k_iret (pc := 56) C rfl (k_fIm (by unfold f_X7_judge; rw [if_pos c7, if_neg c11]; try rfl)) dX7_judge_56
def f_X7_shareAt (mi : MemI) (c2 : Nat) (n : Int32) (b : Int32) : Int32 :=
  if ((mi (8, 8, 0) c2) / n) ≤ (mi (8, 13, 0) b.toNatClampNeg) then ((mi (8, 8, 0) c2) / n)
  else (mi (8, 13, 0) b.toNatClampNeg)
set_option maxRecDepth 100000 in
set_option maxHeartbeats 4000000 in
theorem ct_X7_shareAt {mi : MemI} {ml : MemL} {c2 : Nat} {n : Int32} {b : Int32} (hc2 : c2 < 6) (hb : vp_in b 6) (hn : ¬ n = 0) : k_Ct k_KS k_R0 Mt_X7_shareAt 0 [vR (7, 0, 0), vI (nI c2), vI n, vI b] mi ml (k_rt (some (vI (f_X7_shareAt mi c2 n b))) mi ml) := by
  refine k_ofV (L0 := [vR (7, 0, 0), vI (nI c2), vI n, vI b, vU]) (by decide +kernel) (Nat.le_of_ble_eq_true rfl) rfl rfl ?_
  intro p l e s m args below meth c D cy ad bs C
  refine k_aload_n (pc := 0) C dX7_shareAt_0 rfl ?_
  refine k_getR (pc := 1) (r := some (8, 8, 0)) C fl_X7_26 k_in7 rfl rfl rfl dX7_shareAt_1 ?_
  refine k_iload_n (pc := 4) C dX7_shareAt_4 rfl ?_
  refine k_ialdX (pc := 5) (j := c2) C (nI_clamp (by omega)) (by decide +kernel) rfl (vp_in_nI (show _ < (6 : Nat) by omega) (show (6 : Nat) < 2 ^ 31 by decide)) dX7_shareAt_5 ?_
  refine k_iload_n (pc := 6) C dX7_shareAt_6 rfl ?_
  refine k_idiv (pc := 7) C dX7_shareAt_7 (by first | assumption | exact k_ne0 (by assumption)) ?_
  refine k_istore_4 (pc := 8) C dX7_shareAt_8 rfl ?_
  refine k_iload (pc := 10) C dX7_shareAt_10 rfl ?_
  refine k_aload_n (pc := 12) C dX7_shareAt_12 rfl ?_
  refine k_getR (pc := 13) (r := some (8, 13, 0)) C fl_X7_41 k_in7 rfl rfl rfl dX7_shareAt_13 ?_
  refine k_iload_n (pc := 16) C dX7_shareAt_16 rfl ?_
  refine k_ialdX (pc := 17) (j := b.toNatClampNeg) C rfl (by decide +kernel) rfl hb dX7_shareAt_17 ?_
  refine k_icmp_le (pc := 18) C 30 dX7_shareAt_18 (by decide) (fun c18 => ?_) (fun c18 => ?_)
  · skip
    refine k_iload (pc := 30) C dX7_shareAt_30 rfl ?_
    exact k_iret (pc := 32) C rfl  (k_fI (by unfold f_X7_shareAt; rw [if_pos c18]; try rfl)) dX7_shareAt_32
  · skip
    refine k_aload_n (pc := 21) C dX7_shareAt_21 rfl ?_
    refine k_getR (pc := 22) (r := some (8, 13, 0)) C fl_X7_41 k_in7 rfl rfl rfl dX7_shareAt_22 ?_
    refine k_iload_n (pc := 25) C dX7_shareAt_25 rfl ?_
    refine k_ialdX (pc := 26) (j := b.toNatClampNeg) C rfl (by decide +kernel) rfl hb dX7_shareAt_26 ?_
    refine k_goto (pc := 27) C 32 dX7_shareAt_27 (by decide) ?_
    exact k_iret (pc := 32) C rfl  (k_fI (by unfold f_X7_shareAt; rw [if_neg c18]; try rfl)) dX7_shareAt_32
/-- how many of the first n are at c -/
def k_cnt (mi : MemI) (c : Nat) : Nat → Nat
  | 0 => 0
  | n + 1 => if mi (8, 45, 0) n = nI c then k_cnt mi c n + 1 else k_cnt mi c n
theorem k_cnt_le (mi : MemI) (c : Nat) : ∀ n, k_cnt mi c n ≤ n := by
  intro n
  induction n with
  | zero => exact Nat.le_refl _
  | succ n ih => simp only [k_cnt]; split <;> omega
theorem k_cnt_pos {mi : MemI} {c i : Nat} (h : mi (8, 45, 0) i = nI c) : ∀ n, i < n → 0 < k_cnt mi c n := by
  intro n
  induction n with
  | zero => intro hi; omega
  | succ n ih =>
    intro hi
    simp only [k_cnt]
    by_cases e : i = n
    · subst e; rw [if_pos h]; omega
    · have := ih (by omega)
      split <;> omega
theorem k_cnt_ext {m mi : MemI} (h : ∀ i, m (8, 45, 0) i = mi (8, 45, 0) i) (c : Nat) : ∀ n, k_cnt m c n = k_cnt mi c n := by
  intro n
  induction n with
  | zero => rfl
  | succ n ih => simp only [k_cnt, h, ih]
theorem nI_inj6 {a b : Nat} (ha : a < 1000) (hb : b < 1000) (h : nI a = nI b) : a = b := by
  have := congrArg Int32.toInt h
  rw [nI_toInt (by omega), nI_toInt (by omega)] at this
  omega
/-- one goes from a to b -/
theorem k_cnt_mv {mi : MemI} {i a b : Nat} (ha : mi (8, 45, 0) i = nI a) (ha6 : a < 6) (hb6 : b < 6) (hab : a ≠ b) (c : Nat) (hc : c < 6) : ∀ n, k_cnt (k_ui mi (8, 45, 0) i (nI b)) c n + (if c = a ∧ i < n then 1 else 0) = k_cnt mi c n + (if c = b ∧ i < n then 1 else 0) := by
  intro n
  induction n with
  | zero => simp [k_cnt]
  | succ n ih =>
    simp only [k_cnt]
    by_cases e : n = i
    · subst e
      rw [k_uis, ha]
      simp only [Nat.lt_irrefl, and_false, if_false, Nat.add_zero] at ih
      by_cases h1 : c = a
      · subst h1
        rw [if_neg (fun q => hab (nI_inj6 (by omega) (by omega) q).symm), if_pos rfl, if_pos ⟨rfl, Nat.lt_succ_self _⟩, if_neg (fun q => hab q.1), ih]
      · by_cases h2 : c = b
        · subst h2
          rw [if_pos rfl, if_neg (fun q => hab (nI_inj6 (by omega) (by omega) q)), if_neg (fun q => h1 q.1), if_pos ⟨rfl, Nat.lt_succ_self _⟩, ih]
        · rw [if_neg (fun q => h2 (nI_inj6 (by omega) (by omega) q).symm), if_neg (fun q => h1 (nI_inj6 (by omega) (by omega) q).symm), if_neg (fun q => h1 q.1), if_neg (fun q => h2 q.1), ih]
    · rw [k_uj e]
      have e1 : (i < n + 1) ↔ (i < n) := by omega
      simp only [e1]
      split <;> omega
/-- where each is, and how many are with each citizen -/
def k_rs (nC cm : Nat) (mi : MemI) : Prop := k_pt nC cm mi ∧ (∀ i, i < cm → vp_in (mi (8, 45, 0) i) nC) ∧ ∀ c, c < 6 → mi (8, 47, 0) c = nI (k_cnt mi c cm)
theorem rs_ne1 {nC cm : Nat} {mi : MemI} (h : k_rs nC cm mi) : ∀ c, c < 6 → ¬ mi (8, 47, 0) c + 1 = 0 := by
  intro c hc
  rw [h.2.2 c hc, ← nI_succ]
  have h1 := k_cnt_le mi c cm
  have h2 := h.1.2.2.2.1
  intro q
  have := congrArg Int32.toInt q
  rw [nI_toInt (by omega)] at this
  have e : (0 : Int32).toInt = 0 := rfl
  omega
theorem rs_ne0 {nC cm i : Nat} {mi : MemI} (h : k_rs nC cm mi) (hi : i < cm) : ¬ mi (8, 47, 0) (mi (8, 45, 0) i).toNatClampNeg = 0 := by
  have h6 := h.1.2.1
  have h3 := k_clamp (h.2.1 i hi)
  rw [h.2.2 _ (by omega)]
  have h1 := k_cnt_pos (k_nat (h.2.1 i hi)) cm hi
  have h2 := h.1.2.2.2.1
  have h4 := k_cnt_le mi (mi (8, 45, 0) i).toNatClampNeg cm
  intro q
  have := congrArg Int32.toInt q
  rw [nI_toInt (by omega)] at this
  have e : (0 : Int32).toInt = 0 := rfl
  omega
theorem rs_mv {nC cm i b : Nat} {mi : MemI} (h : k_rs nC cm mi) (hi : i < cm) (hb : b < nC) (hne : ¬ b = (mi (8, 45, 0) i).toNatClampNeg) :
    k_rs nC cm (k_ui (k_ui (k_ui mi (8, 47, 0) (mi (8, 45, 0) i).toNatClampNeg (mi (8, 47, 0) (mi (8, 45, 0) i).toNatClampNeg - 1)) (8, 47, 0) b (k_ui mi (8, 47, 0) (mi (8, 45, 0) i).toNatClampNeg (mi (8, 47, 0) (mi (8, 45, 0) i).toNatClampNeg - 1) (8, 47, 0) b + 1)) (8, 45, 0) i (nI b)) := by
  have hn0 := rs_ne0 h hi
  obtain ⟨h1, h2, h3⟩ := h
  have h6 := h1.2.1
  have hcm := h1.2.2.2.1
  have hg := k_clamp (h2 i hi)
  refine ⟨k_pt_ui (k_pt_ui (k_pt_ui h1 (by simp) (by simp)) (by simp) (by simp)) (by simp) (by simp), fun q hq => ?_, fun c hc => ?_⟩
  · by_cases e : q = i
    · subst e; rw [k_uis]; exact vp_in_nI hb (by omega)
    · rw [k_uj e, k_uk (by decide), k_uk (by decide)]; exact h2 q hq
  · have hmv := k_cnt_mv (k_nat (h2 i hi)) (by omega) (by omega) (Ne.symm hne) c hc cm (b := b)
    simp only [hi, and_true] at hmv
    rw [k_uk (by decide)]
    rw [k_cnt_ext (m := k_ui (k_ui (k_ui mi (8, 47, 0) (mi (8, 45, 0) i).toNatClampNeg (mi (8, 47, 0) (mi (8, 45, 0) i).toNatClampNeg - 1)) (8, 47, 0) b (k_ui mi (8, 47, 0) (mi (8, 45, 0) i).toNatClampNeg (mi (8, 47, 0) (mi (8, 45, 0) i).toNatClampNeg - 1) (8, 47, 0) b + 1)) (8, 45, 0) i (nI b)) (mi := k_ui mi (8, 45, 0) i (nI b)) (fun q => by
      by_cases e : q = i
      · subst e; rw [k_uis, k_uis]
      · rw [k_uj e, k_uj e, k_uk (by decide), k_uk (by decide)]) c cm]
    rw [k_uj (j' := b) hne]
    have hb3 := h3 b (by omega)
    have hg3 := h3 (mi (8, 45, 0) i).toNatClampNeg (by omega)
    by_cases e1 : c = b
    · subst e1
      rw [k_uis, hb3, ← nI_succ]
      congr 1
      rw [if_neg hne, if_pos rfl] at hmv
      omega
    · rw [k_uj e1]
      by_cases e2 : c = (mi (8, 45, 0) i).toNatClampNeg
      · rw [e2, k_uis, hg3]
        rw [if_pos e2, if_neg e1] at hmv
        rw [← e2]
        rw [show k_cnt mi c cm = k_cnt (k_ui mi (8, 45, 0) i (nI b)) c cm + 1 by omega, nI_succ]
        exact Int32.add_sub_cancel _ _
      · rw [k_uj e2, h3 c hc]
        rw [if_neg e2, if_neg e1] at hmv
        congr 1
        omega
def f_X7_dr1 (mi : MemI) (j : Nat) : Nat → Nat × Int32
  | 0 => ((mi (8, 45, 0) j).toNatClampNeg, f_X7_shareAt mi ((mi (8, 45, 0) j).toNatClampNeg) (mi (8, 47, 0) ((mi (8, 45, 0) j).toNatClampNeg)) (mi (8, 44, 0) j))
  | c2 + 1 =>
    if (mi (8, 12, 0) c2) = 1 then (((f_X7_dr1 mi j c2).1), ((f_X7_dr1 mi j c2).2))
    else if (nI c2) = (nI (mi (8, 45, 0) j).toNatClampNeg) then (((f_X7_dr1 mi j c2).1), ((f_X7_dr1 mi j c2).2))
      else if ((f_X7_dr1 mi j c2).2) < (f_X7_shareAt mi c2 ((mi (8, 47, 0) c2) + 1) (mi (8, 44, 0) j)) then (c2, f_X7_shareAt mi c2 ((mi (8, 47, 0) c2) + 1) (mi (8, 44, 0) j))
        else (((f_X7_dr1 mi j c2).1), ((f_X7_dr1 mi j c2).2))
theorem f_X7_dr1_s (mi : MemI) (j : Nat) (c2 : Nat) : f_X7_dr1 mi j (c2 + 1) =
    if (mi (8, 12, 0) c2) = 1 then (((f_X7_dr1 mi j c2).1), ((f_X7_dr1 mi j c2).2))
    else if (nI c2) = (nI (mi (8, 45, 0) j).toNatClampNeg) then (((f_X7_dr1 mi j c2).1), ((f_X7_dr1 mi j c2).2))
      else if ((f_X7_dr1 mi j c2).2) < (f_X7_shareAt mi c2 ((mi (8, 47, 0) c2) + 1) (mi (8, 44, 0) j)) then (c2, f_X7_shareAt mi c2 ((mi (8, 47, 0) c2) + 1) (mi (8, 44, 0) j))
        else (((f_X7_dr1 mi j c2).1), ((f_X7_dr1 mi j c2).2)) := rfl
theorem dr1_lt {mi : MemI} {j nC : Nat} (h : (mi (8, 45, 0) j).toNatClampNeg < nC) : ∀ c2, c2 ≤ nC → (f_X7_dr1 mi j c2).1 < nC := by
  intro c2
  induction c2 with
  | zero => intro _; exact h
  | succ c2 ih =>
    intro hc
    have h1 := ih (by omega)
    rw [f_X7_dr1_s]
    repeat' split
    all_goals first | exact h1 | (show c2 < nC; omega)
def f_X7_drL (mi : MemI) (nC : Nat) : Nat → Int32 × MemI
  | 0 => (0, mi)
  | j + 1 =>
    if (nI ((f_X7_dr1 ((f_X7_drL mi nC j).2) j nC).1)) = (nI (((f_X7_drL mi nC j).2) (8, 45, 0) j).toNatClampNeg) then (((f_X7_drL mi nC j).1), (f_X7_drL mi nC j).2)
    else (1, k_ui (k_ui (k_ui ((f_X7_drL mi nC j).2) (8, 47, 0) ((((f_X7_drL mi nC j).2) (8, 45, 0) j).toNatClampNeg) ((((f_X7_drL mi nC j).2) (8, 47, 0) ((((f_X7_drL mi nC j).2) (8, 45, 0) j).toNatClampNeg)) - 1)) (8, 47, 0) ((f_X7_dr1 ((f_X7_drL mi nC j).2) j nC).1) (((k_ui ((f_X7_drL mi nC j).2) (8, 47, 0) ((((f_X7_drL mi nC j).2) (8, 45, 0) j).toNatClampNeg) ((((f_X7_drL mi nC j).2) (8, 47, 0) ((((f_X7_drL mi nC j).2) (8, 45, 0) j).toNatClampNeg)) - 1)) (8, 47, 0) ((f_X7_dr1 ((f_X7_drL mi nC j).2) j nC).1)) + 1)) (8, 45, 0) j (nI ((f_X7_dr1 ((f_X7_drL mi nC j).2) j nC).1)))
theorem f_X7_drL_s (mi : MemI) (nC : Nat) (j : Nat) : f_X7_drL mi nC (j + 1) =
    if (nI ((f_X7_dr1 ((f_X7_drL mi nC j).2) j nC).1)) = (nI (((f_X7_drL mi nC j).2) (8, 45, 0) j).toNatClampNeg) then (((f_X7_drL mi nC j).1), (f_X7_drL mi nC j).2)
    else (1, k_ui (k_ui (k_ui ((f_X7_drL mi nC j).2) (8, 47, 0) ((((f_X7_drL mi nC j).2) (8, 45, 0) j).toNatClampNeg) ((((f_X7_drL mi nC j).2) (8, 47, 0) ((((f_X7_drL mi nC j).2) (8, 45, 0) j).toNatClampNeg)) - 1)) (8, 47, 0) ((f_X7_dr1 ((f_X7_drL mi nC j).2) j nC).1) (((k_ui ((f_X7_drL mi nC j).2) (8, 47, 0) ((((f_X7_drL mi nC j).2) (8, 45, 0) j).toNatClampNeg) ((((f_X7_drL mi nC j).2) (8, 47, 0) ((((f_X7_drL mi nC j).2) (8, 45, 0) j).toNatClampNeg)) - 1)) (8, 47, 0) ((f_X7_dr1 ((f_X7_drL mi nC j).2) j nC).1)) + 1)) (8, 45, 0) j (nI ((f_X7_dr1 ((f_X7_drL mi nC j).2) j nC).1))) := rfl
theorem rs_drL {nC cm : Nat} {mi : MemI} (h : k_rs nC cm mi) : ∀ j, j ≤ cm → k_rs nC cm (f_X7_drL mi nC j).2 := by
  intro j
  induction j with
  | zero => intro _; exact h
  | succ j ih =>
    intro hj
    have ih2 := ih (by omega)
    have hg := k_clamp (ih2.2.1 j (by omega))
    have h6 := h.1.2.1
    rw [f_X7_drL_s]
    split
    · exact ih2
    · rename_i hne
      exact rs_mv ih2 (by omega) (dr1_lt hg nC (Nat.le_refl _)) (fun q => hne (congrArg nI q))
theorem drL_z (mi : MemI) (nC : Nat) : ∀ j, (f_X7_drL mi nC j).1 = 0 ∨ (f_X7_drL mi nC j).1 = 1 := by
  intro j
  induction j with
  | zero => exact Or.inl rfl
  | succ j ih =>
    rw [f_X7_drL_s]
    split
    · exact ih
    · exact Or.inr rfl
def f_X7_doesRound (mi : MemI) (nC : Nat) (cm : Nat) : Int32 × MemI :=
  (((f_X7_drL mi nC cm).1), (f_X7_drL mi nC cm).2)
set_option maxRecDepth 100000 in
set_option maxHeartbeats 4000000 in
theorem ct_X7_doesRound {mi : MemI} {ml : MemL} {nC : Nat} {cm : Nat} (hrs : k_rs nC cm mi) : k_Ct k_KS k_R0 Mt_X7_doesRound 1 [vR (7, 0, 0)] mi ml (k_rt (some (vI (f_X7_doesRound mi nC cm).1)) (f_X7_doesRound mi nC cm).2 ml) := by
  refine k_ofV (L0 := [vR (7, 0, 0), vU, vU, vU, vU, vU, vU, vU]) (by decide +kernel) (Nat.le_of_ble_eq_true rfl) rfl rfl ?_
  intro p l e s m args below meth c D cy ad bs C
  have h6 := hrs.1.2.1
  have hc6 := hrs.1.2.2.2.1
  refine k_iconst (pc := 0) (v := 0) C dX7_doesRound_0 (by decide) ?_
  refine k_istore_1 (pc := 1) C dX7_doesRound_1 rfl ?_
  refine k_iconst (pc := 2) (v := 0) C dX7_doesRound_2 (by decide) ?_
  refine k_istore_2 (pc := 3) C dX7_doesRound_3 rfl ?_
  refine k_cast (L' := [vR (7, 0, 0), vI ((f_X7_drL mi nC 0).1), vI (nI 0), vU, vU, vU, vU, vU]) (mi' := (f_X7_drL mi nC 0).2) (ml' := ml) rfl rfl rfl ?_
  refine k_down (P := fun j => k_V p l e (k_rm 1) s m args below meth c D cy ad bs k_KS k_R0 0 0 (k_End below D cy ad bs k_KS k_R0 (k_rt (some (vI (f_X7_doesRound mi nC cm).1)) (f_X7_doesRound mi nC cm).2 ml) args s) ((f_X7_drL mi nC j).2) ml 4 [vR (7, 0, 0), vI ((f_X7_drL mi nC j).1), vI (nI j), vU, vU, vU, vU, vU] []) cm ?_ (fun j hj hk => ?_)
  · skip
    have hrj : k_rs nC cm ((f_X7_drL mi nC cm).2) := rs_drL hrs cm (by omega)
    refine k_iload_n (pc := 4) C dX7_doesRound_4 rfl ?_
    refine k_aload_n (pc := 5) C dX7_doesRound_5 rfl ?_
    refine k_getI (pc := 6) C fl_X7_245 k_in7 rfl rfl dX7_doesRound_6 ?_
    refine k_icmp_geT (pc := 9) C 178 dX7_doesRound_9 (by decide) (k_leC hrj.1.2.2.1) ?_
    refine k_iload_n (pc := 178) C dX7_doesRound_178 rfl ?_
    exact k_zret (pc := 179) C rfl (drL_z mi nC cm) (k_fIm (by unfold f_X7_doesRound; try rfl)) dX7_doesRound_179
  · skip
    try dsimp only at hk
    have hrj : k_rs nC cm ((f_X7_drL mi nC j).2) := rs_drL hrs j (by omega)
    have hgj := hrj.2.1 j hj
    have hbj := hrj.1.2.2.2.2 j hj
    have hs0 := rs_ne0 hrj hj
    have hs1 := rs_ne1 hrj
    have hg6 := k_clamp hgj
    refine k_iload_n (pc := 4) C dX7_doesRound_4 rfl ?_
    refine k_aload_n (pc := 5) C dX7_doesRound_5 rfl ?_
    refine k_getI (pc := 6) C fl_X7_245 k_in7 rfl rfl dX7_doesRound_6 ?_
    refine k_icmp_geF (pc := 9) C 178 dX7_doesRound_9 (by decide) (k_ngeC hrj.1.2.2.1 hc6 hj) ?_
    refine k_aload_n (pc := 12) C dX7_doesRound_12 rfl ?_
    refine k_getR (pc := 13) (r := some (8, 44, 0)) C fl_X7_114 k_in7 rfl rfl rfl dX7_doesRound_13 ?_
    refine k_iload_n (pc := 16) C dX7_doesRound_16 rfl ?_
    refine k_ialdX (pc := 17) (j := j) C (nI_clamp (by omega)) (by decide +kernel) rfl (vp_in_nI (show _ < (6 : Nat) by omega) (show (6 : Nat) < 2 ^ 31 by decide)) dX7_doesRound_17 ?_
    refine k_istore_3 (pc := 18) C dX7_doesRound_18 rfl ?_
    refine k_aload_n (pc := 19) C dX7_doesRound_19 rfl ?_
    refine k_getR (pc := 20) (r := some (8, 45, 0)) C fl_X7_117 k_in7 rfl rfl rfl dX7_doesRound_20 ?_
    refine k_iload_n (pc := 23) C dX7_doesRound_23 rfl ?_
    refine k_ialdX (pc := 24) (j := j) C (nI_clamp (by omega)) (by decide +kernel) rfl (vp_in_nI (show _ < (6 : Nat) by omega) (show (6 : Nat) < 2 ^ 31 by decide)) dX7_doesRound_24 ?_
    refine k_sx (x := nI (((f_X7_drL mi nC j).2) (8, 45, 0) j).toNatClampNeg) (k_nat hgj) ?_
    refine k_istore_4 (pc := 25) C dX7_doesRound_25 rfl ?_
    refine k_aload_n (pc := 27) C dX7_doesRound_27 rfl ?_
    refine k_iload (pc := 28) C dX7_doesRound_28 rfl ?_
    refine k_aload_n (pc := 30) C dX7_doesRound_30 rfl ?_
    refine k_getR (pc := 31) (r := some (8, 47, 0)) C fl_X7_123 k_in7 rfl rfl rfl dX7_doesRound_31 ?_
    refine k_iload (pc := 34) C dX7_doesRound_34 rfl ?_
    refine k_ialdX (pc := 36) (j := (((f_X7_drL mi nC j).2) (8, 45, 0) j).toNatClampNeg) C (nI_clamp (by omega)) (by decide +kernel) rfl (vp_in_nI (show _ < (6 : Nat) by omega) (show (6 : Nat) < 2 ^ 31 by decide)) dX7_doesRound_36 ?_
    refine k_iload_n (pc := 37) C dX7_doesRound_37 rfl ?_
    refine k_call3 (pc := 38) C cv_X7_258 (ct_X7_shareAt (by omega) hbj hs0) k_in7 rfl (by decide) rfl (Nat.le_of_ble_eq_true rfl) dX7_doesRound_38 ?_
    refine k_istore_5 (pc := 41) C dX7_doesRound_41 rfl ?_
    refine k_iconst (pc := 43) (v := 0) C dX7_doesRound_43 (by decide) ?_
    refine k_istore_6 (pc := 44) C dX7_doesRound_44 rfl ?_
    refine k_cast (L' := [vR (7, 0, 0), vI ((f_X7_drL mi nC j).1), vI (nI j), vI (((f_X7_drL mi nC j).2) (8, 44, 0) j), vI (nI ((f_X7_dr1 ((f_X7_drL mi nC j).2) j 0).1)), vI ((f_X7_dr1 ((f_X7_drL mi nC j).2) j 0).2), vI (nI 0), vU]) (mi' := (f_X7_drL mi nC j).2) (ml' := ml) rfl rfl rfl ?_
    refine k_down (P := fun c2 => k_V p l e (k_rm 1) s m args below meth c D cy ad bs k_KS k_R0 0 0 (k_End below D cy ad bs k_KS k_R0 (k_rt (some (vI (f_X7_doesRound mi nC cm).1)) (f_X7_doesRound mi nC cm).2 ml) args s) ((f_X7_drL mi nC j).2) ml 46 [vR (7, 0, 0), vI ((f_X7_drL mi nC j).1), vI (nI j), vI (((f_X7_drL mi nC j).2) (8, 44, 0) j), vI (nI ((f_X7_dr1 ((f_X7_drL mi nC j).2) j c2).1)), vI ((f_X7_dr1 ((f_X7_drL mi nC j).2) j c2).2), vI (nI c2), vU] []) nC ?_ (fun c2 hc2 hkc2 => ?_)
    · skip
      have hle := dr1_lt (mi := (f_X7_drL mi nC j).2) (j := j) hg6 nC (Nat.le_refl _)
      refine k_iload (pc := 46) C dX7_doesRound_46 rfl ?_
      refine k_aload_n (pc := 48) C dX7_doesRound_48 rfl ?_
      refine k_getI (pc := 49) C fl_X7_129 k_in7 rfl rfl dX7_doesRound_49 ?_
      refine k_icmp_geT (pc := 52) C 122 dX7_doesRound_52 (by decide) (k_leC hrj.1.1) ?_
      refine k_iload (pc := 122) C dX7_doesRound_122 rfl ?_
      refine k_aload_n (pc := 124) C dX7_doesRound_124 rfl ?_
      refine k_getR (pc := 125) (r := some (8, 45, 0)) C fl_X7_117 k_in7 rfl rfl rfl dX7_doesRound_125 ?_
      refine k_iload_n (pc := 128) C dX7_doesRound_128 rfl ?_
      refine k_ialdX (pc := 129) (j := j) C (nI_clamp (by omega)) (by decide +kernel) rfl (vp_in_nI (show _ < (6 : Nat) by omega) (show (6 : Nat) < 2 ^ 31 by decide)) dX7_doesRound_129 ?_
      refine k_sx (x := nI (((f_X7_drL mi nC j).2) (8, 45, 0) j).toNatClampNeg) (k_nat hgj) ?_
      refine k_icmp_ne (pc := 130) C 136 dX7_doesRound_130 (by decide) (fun c130 => ?_) (fun c130 => ?_)
      · skip
        refine k_aload_n (pc := 136) C dX7_doesRound_136 rfl ?_
        refine k_getR (pc := 137) (r := some (8, 47, 0)) C fl_X7_123 k_in7 rfl rfl rfl dX7_doesRound_137 ?_
        refine k_aload_n (pc := 140) C dX7_doesRound_140 rfl ?_
        refine k_getR (pc := 141) (r := some (8, 45, 0)) C fl_X7_117 k_in7 rfl rfl rfl dX7_doesRound_141 ?_
        refine k_iload_n (pc := 144) C dX7_doesRound_144 rfl ?_
        refine k_ialdX (pc := 145) (j := j) C (nI_clamp (by omega)) (by decide +kernel) rfl (vp_in_nI (show _ < (6 : Nat) by omega) (show (6 : Nat) < 2 ^ 31 by decide)) dX7_doesRound_145 ?_
        refine k_sx (x := nI (((f_X7_drL mi nC j).2) (8, 45, 0) j).toNatClampNeg) (k_nat hgj) ?_
        refine k_dup2 (pc := 146) C dX7_doesRound_146 rfl rfl ?_
        refine k_ialdX (pc := 147) (j := (((f_X7_drL mi nC j).2) (8, 45, 0) j).toNatClampNeg) C (nI_clamp (by omega)) (by decide +kernel) rfl (vp_in_nI (show _ < (6 : Nat) by omega) (show (6 : Nat) < 2 ^ 31 by decide)) dX7_doesRound_147 ?_
        refine k_iconst (pc := 148) (v := 1) C dX7_doesRound_148 (by decide) ?_
        refine k_isub (pc := 149) C dX7_doesRound_149 ?_
        refine k_iastX (pc := 150) (j := (((f_X7_drL mi nC j).2) (8, 45, 0) j).toNatClampNeg) C (nI_clamp (by omega)) (by decide +kernel) rfl (vp_in_nI (show _ < (6 : Nat) by omega) (show (6 : Nat) < 2 ^ 31 by decide)) dX7_doesRound_150 ?_
        refine k_aload_n (pc := 151) C dX7_doesRound_151 rfl ?_
        refine k_getR (pc := 152) (r := some (8, 47, 0)) C fl_X7_123 k_in7 rfl rfl rfl dX7_doesRound_152 ?_
        refine k_iload (pc := 155) C dX7_doesRound_155 rfl ?_
        refine k_dup2 (pc := 157) C dX7_doesRound_157 rfl rfl ?_
        refine k_ialdX (pc := 158) (j := ((f_X7_dr1 ((f_X7_drL mi nC j).2) j nC).1)) C (nI_clamp (by omega)) (by decide +kernel) rfl (vp_in_nI (show _ < (6 : Nat) by omega) (show (6 : Nat) < 2 ^ 31 by decide)) dX7_doesRound_158 ?_
        refine k_iconst (pc := 159) (v := 1) C dX7_doesRound_159 (by decide) ?_
        refine k_iadd (pc := 160) C dX7_doesRound_160 ?_
        refine k_iastX (pc := 161) (j := ((f_X7_dr1 ((f_X7_drL mi nC j).2) j nC).1)) C (nI_clamp (by omega)) (by decide +kernel) rfl (vp_in_nI (show _ < (6 : Nat) by omega) (show (6 : Nat) < 2 ^ 31 by decide)) dX7_doesRound_161 ?_
        refine k_aload_n (pc := 162) C dX7_doesRound_162 rfl ?_
        refine k_getR (pc := 163) (r := some (8, 45, 0)) C fl_X7_117 k_in7 rfl rfl rfl dX7_doesRound_163 ?_
        refine k_iload_n (pc := 166) C dX7_doesRound_166 rfl ?_
        refine k_iload (pc := 167) C dX7_doesRound_167 rfl ?_
        refine k_iastX (pc := 169) (j := j) C (nI_clamp (by omega)) (by decide +kernel) rfl (vp_in_nI (show _ < (6 : Nat) by omega) (show (6 : Nat) < 2 ^ 31 by decide)) dX7_doesRound_169 ?_
        refine k_iconst (pc := 170) (v := 1) C dX7_doesRound_170 (by decide) ?_
        refine k_istore_1 (pc := 171) C dX7_doesRound_171 rfl ?_
        refine k_iinc_2 (pc := 172) (v := nI (j + 1)) C dX7_doesRound_172 (k_inc j) rfl ?_
        refine k_goto (pc := 175) C 4 dX7_doesRound_175 (by decide) ?_
        refine k_drop_3 ?_
        refine k_drop_4 ?_
        refine k_drop_5 ?_
        refine k_drop_6 ?_
        exact k_cast (by rw [f_X7_drL_s, if_neg c130]) (by rw [f_X7_drL_s, if_neg c130]) rfl hk
      · skip
        refine k_goto (pc := 133) C 172 dX7_doesRound_133 (by decide) ?_
        refine k_iinc_2 (pc := 172) (v := nI (j + 1)) C dX7_doesRound_172 (k_inc j) rfl ?_
        refine k_goto (pc := 175) C 4 dX7_doesRound_175 (by decide) ?_
        refine k_drop_3 ?_
        refine k_drop_4 ?_
        refine k_drop_5 ?_
        refine k_drop_6 ?_
        exact k_cast (by rw [f_X7_drL_s, if_pos c130]) (by rw [f_X7_drL_s, if_pos c130]) rfl hk
    · skip
      try dsimp only at hkc2
      refine k_iload (pc := 46) C dX7_doesRound_46 rfl ?_
      refine k_aload_n (pc := 48) C dX7_doesRound_48 rfl ?_
      refine k_getI (pc := 49) C fl_X7_129 k_in7 rfl rfl dX7_doesRound_49 ?_
      refine k_icmp_geF (pc := 52) C 122 dX7_doesRound_52 (by decide) (k_ngeC hrj.1.1 h6 hc2) ?_
      refine k_aload_n (pc := 55) C dX7_doesRound_55 rfl ?_
      refine k_getR (pc := 56) (r := some (8, 12, 0)) C fl_X7_38 k_in7 rfl rfl rfl dX7_doesRound_56 ?_
      refine k_iload (pc := 59) C dX7_doesRound_59 rfl ?_
      refine k_ialdX (pc := 61) (j := c2) C (nI_clamp (by omega)) (by decide +kernel) rfl (vp_in_nI (show _ < (6 : Nat) by omega) (show (6 : Nat) < 2 ^ 31 by decide)) dX7_doesRound_61 ?_
      refine k_iconst (pc := 62) (v := 1) C dX7_doesRound_62 (by decide) ?_
      refine k_icmp_eq (pc := 63) C 116 dX7_doesRound_63 (by decide) (fun c63 => ?_) (fun c63 => ?_)
      · skip
        refine k_iinc_6 (pc := 116) (v := nI (c2 + 1)) C dX7_doesRound_116 (k_inc c2) rfl ?_
        refine k_goto (pc := 119) C 46 dX7_doesRound_119 (by decide) ?_
        exact k_cast (by rw [f_X7_dr1_s, if_pos c63]) rfl rfl hkc2
      · skip
        refine k_iload (pc := 66) C dX7_doesRound_66 rfl ?_
        refine k_aload_n (pc := 68) C dX7_doesRound_68 rfl ?_
        refine k_getR (pc := 69) (r := some (8, 45, 0)) C fl_X7_117 k_in7 rfl rfl rfl dX7_doesRound_69 ?_
        refine k_iload_n (pc := 72) C dX7_doesRound_72 rfl ?_
        refine k_ialdX (pc := 73) (j := j) C (nI_clamp (by omega)) (by decide +kernel) rfl (vp_in_nI (show _ < (6 : Nat) by omega) (show (6 : Nat) < 2 ^ 31 by decide)) dX7_doesRound_73 ?_
        refine k_sx (x := nI (((f_X7_drL mi nC j).2) (8, 45, 0) j).toNatClampNeg) (k_nat hgj) ?_
        refine k_icmp_ne (pc := 74) C 80 dX7_doesRound_74 (by decide) (fun c74 => ?_) (fun c74 => ?_)
        · skip
          refine k_aload_n (pc := 80) C dX7_doesRound_80 rfl ?_
          refine k_iload (pc := 81) C dX7_doesRound_81 rfl ?_
          refine k_aload_n (pc := 83) C dX7_doesRound_83 rfl ?_
          refine k_getR (pc := 84) (r := some (8, 47, 0)) C fl_X7_123 k_in7 rfl rfl rfl dX7_doesRound_84 ?_
          refine k_iload (pc := 87) C dX7_doesRound_87 rfl ?_
          refine k_ialdX (pc := 89) (j := c2) C (nI_clamp (by omega)) (by decide +kernel) rfl (vp_in_nI (show _ < (6 : Nat) by omega) (show (6 : Nat) < 2 ^ 31 by decide)) dX7_doesRound_89 ?_
          refine k_iconst (pc := 90) (v := 1) C dX7_doesRound_90 (by decide) ?_
          refine k_iadd (pc := 91) C dX7_doesRound_91 ?_
          refine k_iload_n (pc := 92) C dX7_doesRound_92 rfl ?_
          refine k_call3 (pc := 93) C cv_X7_258 (ct_X7_shareAt (by omega) hbj (hs1 _ (by omega))) k_in7 rfl (by decide) rfl (Nat.le_of_ble_eq_true rfl) dX7_doesRound_93 ?_
          refine k_istore_7 (pc := 96) C dX7_doesRound_96 rfl ?_
          refine k_iload (pc := 98) C dX7_doesRound_98 rfl ?_
          refine k_iload (pc := 100) C dX7_doesRound_100 rfl ?_
          refine k_icmp_gt (pc := 102) C 108 dX7_doesRound_102 (by decide) (fun c102 => ?_) (fun c102 => ?_)
          · skip
            refine k_iload (pc := 108) C dX7_doesRound_108 rfl ?_
            refine k_istore_4 (pc := 110) C dX7_doesRound_110 rfl ?_
            refine k_iload (pc := 112) C dX7_doesRound_112 rfl ?_
            refine k_istore_5 (pc := 114) C dX7_doesRound_114 rfl ?_
            refine k_iinc_6 (pc := 116) (v := nI (c2 + 1)) C dX7_doesRound_116 (k_inc c2) rfl ?_
            refine k_goto (pc := 119) C 46 dX7_doesRound_119 (by decide) ?_
            refine k_drop_7 ?_
            exact k_cast (by rw [f_X7_dr1_s, if_neg c63, if_neg c74, if_pos c102]) rfl rfl hkc2
          · skip
            refine k_goto (pc := 105) C 116 dX7_doesRound_105 (by decide) ?_
            refine k_iinc_6 (pc := 116) (v := nI (c2 + 1)) C dX7_doesRound_116 (k_inc c2) rfl ?_
            refine k_goto (pc := 119) C 46 dX7_doesRound_119 (by decide) ?_
            refine k_drop_7 ?_
            exact k_cast (by rw [f_X7_dr1_s, if_neg c63, if_neg c74, if_neg c102]) rfl rfl hkc2
        · skip
          refine k_goto (pc := 77) C 116 dX7_doesRound_77 (by decide) ?_
          refine k_iinc_6 (pc := 116) (v := nI (c2 + 1)) C dX7_doesRound_116 (k_inc c2) rfl ?_
          refine k_goto (pc := 119) C 46 dX7_doesRound_119 (by decide) ?_
          exact k_cast (by rw [f_X7_dr1_s, if_neg c63, if_pos c74]) rfl rfl hkc2
