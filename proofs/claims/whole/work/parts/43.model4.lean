/-! Model: what its memory keeps; small methods, acts -/
section KY
variable {p : Program} {l : Launch} {e : Env} {R : Room} {s : State} {m : MethodId} {args : Array Value} {below : List Frame} {meth : Method} {c : Code} {D : va_G} {cy : Nat → ClassId} {ad : Ky → Nat} {bs : Nat} {ks : List Ky} {mr : MemR} {cells slots : Nat} {Q : State → Prop} {mi : MemI} {ml : MemL} {pc : Nat} {L st : List MV} {M : k_M}
theorem k_sx {x y : Int32} (h : y = x) (k : k_V p l e R s m args below meth c D cy ad bs ks mr cells slots Q mi ml (pc) (L) (vI x :: st)) : k_V p l e R s m args below meth c D cy ad bs ks mr cells slots Q mi ml (pc) (L) (vI y :: st) := by
  subst h; exact k
end KY
theorem k_uk {mi : MemI} {k k' : Ky} {j j' : Nat} {v : Int32} (h : k' ≠ k) : k_ui mi k j v k' j' = mi k' j' := if_neg (fun q => h q.1)
theorem k_uj {mi : MemI} {k : Ky} {j j' : Nat} {v : Int32} (h : j' ≠ j) : k_ui mi k j v k j' = mi k j' := if_neg (fun q => h q.2)
theorem k_uis {mi : MemI} {k : Ky} {j : Nat} {v : Int32} : k_ui mi k j v k j = v := if_pos ⟨rfl, rfl⟩
/-- a place, or none: as the model's ints tell it -/
def k_op (t : Nat) : Int32 := if t < 6 then nI t else -1
theorem k_op_s {t : Nat} (h : t < 6) : k_op t = nI t := if_pos h
theorem k_op_n {t : Nat} (h : ¬ t < 6) : k_op t = -1 := if_neg h
theorem k_op_6 : k_op 6 = -1 := rfl
theorem k_nat {x : Int32} {n : Nat} (h : vp_in x n) : x = nI x.toNatClampNeg := by
  obtain ⟨j, hj, rfl⟩ := nI_of (fun q => h (Or.inl q))
  rw [nI_clamp hj]
theorem k_nIne {t : Nat} (h : t < 1000) : ¬ nI t = -1 := fun q => by
  have h2 := congrArg Int32.toInt q
  rw [nI_toInt (by omega)] at h2
  have h3 : (-1 : Int32).toInt = -1 := rfl
  omega
theorem k_lastin {x : Int32} {n : Nat} (h : x = -1 ∨ vp_in x n) (h2 : ¬ x = -1) : vp_in x n := h.resolve_left h2
theorem k_leC {x : Int32} {n : Nat} (h : x = nI n) : x ≤ nI n := h ▸ Int32.le_refl _
theorem k_ngeC {x : Int32} {n j : Nat} (h : x = nI n) (hn : n ≤ 6) (hj : j < n) : ¬ x ≤ nI j := by
  rw [h]; exact nI_ge hj (by omega)
theorem k_leN {n : Int32} (h : ¬ n < 0) : n ≤ nI n.toNatClampNeg := by
  obtain ⟨j, hj, rfl⟩ := nI_of h
  rw [nI_clamp hj]; exact Int32.le_refl _
theorem k_ngeN {n : Int32} {j : Nat} (h : ¬ n < 0) (hj : j < n.toNatClampNeg) : ¬ n ≤ nI j := by
  obtain ⟨q, hq, rfl⟩ := nI_of h
  rw [nI_clamp hq] at hj
  exact nI_ge hj hq
/-- how many citizens and beggars the model has, and that each beggar's last is a citizen's number -/
def k_mo (nC nB : Nat) (mi : MemI) : Prop := mi (7, 0, 0) 0 = nI nC ∧ nC ≤ 6 ∧ mi (7, 0, 0) 1 = nI nB ∧ nB ≤ 6 ∧ ∀ b, b < nB → mi (8, 15, 0) b = -1 ∨ vp_in (mi (8, 15, 0) b) nC
theorem k_mo_ui {nC nB : Nat} {mi : MemI} {k : Ky} {j : Nat} {v : Int32} (h : k_mo nC nB mi) (h1 : ¬ (k = (7, 0, 0) ∧ j < 2)) (h2 : k ≠ (8, 15, 0)) : k_mo nC nB (k_ui mi k j v) := by
  obtain ⟨a1, a2, a3, a4, a5⟩ := h
  refine ⟨?_, a2, ?_, a4, fun b hb => ?_⟩
  · rw [← a1]; exact if_neg (fun q => h1 ⟨q.1.symm, by omega⟩)
  · rw [← a3]; exact if_neg (fun q => h1 ⟨q.1.symm, by omega⟩)
  · rw [k_uk (Ne.symm h2)]; exact a5 b hb
theorem body_fr {mi : MemI} {b : Int32} {k : Ky} {j : Nat} (h1 : k ≠ (8, 50, 0)) (h2 : ¬ (k = (7, 0, 0) ∧ j = 51)) : f_X7_body mi b k j = mi k j := by
  unfold f_X7_body
  split
  · exact if_neg (fun q => h2 ⟨q.1, q.2⟩)
  · exact (if_neg (fun q => h2 ⟨q.1, q.2⟩)).trans (k_uk h1)
theorem body_ran {mi : MemI} {b : Int32} {r : Nat} (h : mi (7, 0, 0) 51 = nI r) : f_X7_body mi b (7, 0, 0) 51 = nI (r + 1) := by
  unfold f_X7_body
  split
  · rw [k_uis, h, nI_succ]
  · rw [k_uis, k_uk (by decide), h, nI_succ]
theorem k_nneg {x : Int32} {r : Nat} (h : x = nI r) (hr : r < 1000) : ¬ x < 0 := by
  rw [h]; exact nI_pos (by omega)
theorem k_addin {nC : Nat} {x : Int32} (hC : x = nI nC) (h6 : nC ≤ 6) (h : ¬ x = 6) : vp_in x 6 := by
  rw [hC] at h ⊢
  exact vp_in_nI (by
    rcases Nat.lt_or_ge nC 6 with h7 | h7
    · exact h7
    · exact absurd (by rw [show nC = 6 by omega]; rfl) h) (by decide)
def f_X7_citizen (mi : MemI) (k : Int32) (a : Int32) (ms : Int32) (h : Int32) : Int32 × MemI :=
  if k < 0 then ((f_X7_no mi (-1)).1, (f_X7_no mi (-1)).2)
  else if k ≤ 6 then if (f_X7_isFrom a 0 9) = 0 then ((f_X7_no mi (-6)).1, (f_X7_no mi (-6)).2)
      else if (f_X7_isFrom ms 0 99) = 0 then ((f_X7_no mi (-6)).1, (f_X7_no mi (-6)).2)
        else if (f_X7_isFrom h 0 20) = 0 then ((f_X7_no mi (-6)).1, (f_X7_no mi (-6)).2)
          else if (mi (7, 0, 0) 0) = 6 then ((f_X7_no mi (-7)).1, (f_X7_no mi (-7)).2)
            else ((f_X7_addsCitizen mi k a ms h).1, (f_X7_addsCitizen mi k a ms h).2)
    else ((f_X7_no mi (-1)).1, (f_X7_no mi (-1)).2)
set_option maxRecDepth 100000 in
set_option maxHeartbeats 4000000 in
theorem ct_X7_citizen {nC nB : Nat} {mi : MemI} {ml : MemL} {k : Int32} {a : Int32} {ms : Int32} {h : Int32} (hm : k_mo nC nB mi) : k_Ct k_KS k_R0 Mt_X7_citizen 1 [vR (7, 0, 0), vI k, vI a, vI ms, vI h] mi ml (k_rt (some (vI (f_X7_citizen mi k a ms h).1)) (f_X7_citizen mi k a ms h).2 ml) := by
  refine k_ofV (L0 := [vR (7, 0, 0), vI k, vI a, vI ms, vI h]) (by decide +kernel) (Nat.le_of_ble_eq_true rfl) rfl rfl ?_
  intro p l e s m args below meth c D cy ad bs C
  have hC := hm.1
  have h6 := hm.2.1
  have hB := hm.2.2.1
  have h6b := hm.2.2.2.1
  refine k_iload_n (pc := 0) C dX7_citizen_0 rfl ?_
  refine k_if_lt (pc := 1) C 10 dX7_citizen_1 (by decide) (fun c1 => ?_) (fun c1 => ?_)
  · skip
    refine k_aload_n (pc := 10) C dX7_citizen_10 rfl ?_
    refine k_iconst (pc := 11) (v := (-1)) C dX7_citizen_11 (by decide) ?_
    refine k_call1 (pc := 12) C cv_X7_139 (ct_X7_no (k_vd (by decide))) k_in7 rfl (by decide) rfl (Nat.le_of_ble_eq_true rfl) dX7_citizen_12 ?_
    exact k_iret (pc := 15) C rfl  (k_fIm (by unfold f_X7_citizen; rw [if_pos c1]; try rfl)) dX7_citizen_15
  · skip
    refine k_iload_n (pc := 4) C dX7_citizen_4 rfl ?_
    refine k_bipush (pc := 5) (v := 6) C dX7_citizen_5 (by decide) ?_
    refine k_icmp_le (pc := 7) C 16 dX7_citizen_7 (by decide) (fun c7 => ?_) (fun c7 => ?_)
    · skip
      refine k_aload_n (pc := 16) C dX7_citizen_16 rfl ?_
      refine k_iload_n (pc := 17) C dX7_citizen_17 rfl ?_
      refine k_iconst (pc := 18) (v := 0) C dX7_citizen_18 (by decide) ?_
      refine k_bipush (pc := 19) (v := 9) C dX7_citizen_19 (by decide) ?_
      refine k_call3 (pc := 21) C cv_X7_149 ct_X7_isFrom k_in7 rfl (by decide) rfl (Nat.le_of_ble_eq_true rfl) dX7_citizen_21 ?_
      refine k_if_eq (pc := 24) C 50 dX7_citizen_24 (by decide) (fun c24 => ?_) (fun c24 => ?_)
      · skip
        refine k_aload_n (pc := 50) C dX7_citizen_50 rfl ?_
        refine k_bipush (pc := 51) (v := (-6)) C dX7_citizen_51 (by decide) ?_
        refine k_call1 (pc := 53) C cv_X7_139 (ct_X7_no (k_vd (by decide))) k_in7 rfl (by decide) rfl (Nat.le_of_ble_eq_true rfl) dX7_citizen_53 ?_
        exact k_iret (pc := 56) C rfl  (k_fIm (by unfold f_X7_citizen; rw [if_neg c1, if_pos c7, if_pos c24]; try rfl)) dX7_citizen_56
      · skip
        refine k_aload_n (pc := 27) C dX7_citizen_27 rfl ?_
        refine k_iload_n (pc := 28) C dX7_citizen_28 rfl ?_
        refine k_iconst (pc := 29) (v := 0) C dX7_citizen_29 (by decide) ?_
        refine k_bipush (pc := 30) (v := 99) C dX7_citizen_30 (by decide) ?_
        refine k_call3 (pc := 32) C cv_X7_149 ct_X7_isFrom k_in7 rfl (by decide) rfl (Nat.le_of_ble_eq_true rfl) dX7_citizen_32 ?_
        refine k_if_eq (pc := 35) C 50 dX7_citizen_35 (by decide) (fun c35 => ?_) (fun c35 => ?_)
        · skip
          refine k_aload_n (pc := 50) C dX7_citizen_50 rfl ?_
          refine k_bipush (pc := 51) (v := (-6)) C dX7_citizen_51 (by decide) ?_
          refine k_call1 (pc := 53) C cv_X7_139 (ct_X7_no (k_vd (by decide))) k_in7 rfl (by decide) rfl (Nat.le_of_ble_eq_true rfl) dX7_citizen_53 ?_
          exact k_iret (pc := 56) C rfl  (k_fIm (by unfold f_X7_citizen; rw [if_neg c1, if_pos c7, if_neg c24, if_pos c35]; try rfl)) dX7_citizen_56
        · skip
          refine k_aload_n (pc := 38) C dX7_citizen_38 rfl ?_
          refine k_iload (pc := 39) C dX7_citizen_39 rfl ?_
          refine k_iconst (pc := 41) (v := 0) C dX7_citizen_41 (by decide) ?_
          refine k_bipush (pc := 42) (v := 20) C dX7_citizen_42 (by decide) ?_
          refine k_call3 (pc := 44) C cv_X7_149 ct_X7_isFrom k_in7 rfl (by decide) rfl (Nat.le_of_ble_eq_true rfl) dX7_citizen_44 ?_
          refine k_if_ne (pc := 47) C 57 dX7_citizen_47 (by decide) (fun c47 => ?_) (fun c47 => ?_)
          · skip
            refine k_aload_n (pc := 57) C dX7_citizen_57 rfl ?_
            refine k_getI (pc := 58) C fl_X7_129 k_in7 rfl rfl dX7_citizen_58 ?_
            refine k_bipush (pc := 61) (v := 6) C dX7_citizen_61 (by decide) ?_
            refine k_icmp_ne (pc := 63) C 75 dX7_citizen_63 (by decide) (fun c63 => ?_) (fun c63 => ?_)
            · skip
              refine k_aload_n (pc := 75) C dX7_citizen_75 rfl ?_
              refine k_iload_n (pc := 76) C dX7_citizen_76 rfl ?_
              refine k_iload_n (pc := 77) C dX7_citizen_77 rfl ?_
              refine k_iload_n (pc := 78) C dX7_citizen_78 rfl ?_
              refine k_iload (pc := 79) C dX7_citizen_79 rfl ?_
              refine k_call4 (pc := 81) C cv_X7_153 (ct_X7_addsCitizen (k_addin hC h6 (by assumption))) k_in7 rfl (by decide) rfl (Nat.le_of_ble_eq_true rfl) dX7_citizen_81 ?_
              exact k_iret (pc := 84) C rfl  (k_fIm (by unfold f_X7_citizen; rw [if_neg c1, if_pos c7, if_neg c24, if_neg c35, if_neg c47, if_neg c63]; try rfl)) dX7_citizen_84
            · skip
              refine k_aload_n (pc := 66) C dX7_citizen_66 rfl ?_
              refine k_bipush (pc := 67) (v := (-7)) C dX7_citizen_67 (by decide) ?_
              refine k_call1 (pc := 69) C cv_X7_139 (ct_X7_no (k_vd (by decide))) k_in7 rfl (by decide) rfl (Nat.le_of_ble_eq_true rfl) dX7_citizen_69 ?_
              refine k_goto (pc := 72) C 84 dX7_citizen_72 (by decide) ?_
              exact k_iret (pc := 84) C rfl  (k_fIm (by unfold f_X7_citizen; rw [if_neg c1, if_pos c7, if_neg c24, if_neg c35, if_neg c47, if_pos c63]; try rfl)) dX7_citizen_84
          · skip
            refine k_aload_n (pc := 50) C dX7_citizen_50 rfl ?_
            refine k_bipush (pc := 51) (v := (-6)) C dX7_citizen_51 (by decide) ?_
            refine k_call1 (pc := 53) C cv_X7_139 (ct_X7_no (k_vd (by decide))) k_in7 rfl (by decide) rfl (Nat.le_of_ble_eq_true rfl) dX7_citizen_53 ?_
            exact k_iret (pc := 56) C rfl  (k_fIm (by unfold f_X7_citizen; rw [if_neg c1, if_pos c7, if_neg c24, if_neg c35, if_pos c47]; try rfl)) dX7_citizen_56
    · skip
      refine k_aload_n (pc := 10) C dX7_citizen_10 rfl ?_
      refine k_iconst (pc := 11) (v := (-1)) C dX7_citizen_11 (by decide) ?_
      refine k_call1 (pc := 12) C cv_X7_139 (ct_X7_no (k_vd (by decide))) k_in7 rfl (by decide) rfl (Nat.le_of_ble_eq_true rfl) dX7_citizen_12 ?_
      exact k_iret (pc := 15) C rfl  (k_fIm (by unfold f_X7_citizen; rw [if_neg c1, if_neg c7]; try rfl)) dX7_citizen_15
def f_X7_beggar (mi : MemI) (n : Int32) (r : Int32) : Int32 × MemI :=
  if (f_X7_isFrom n 1 9) = 0 then ((f_X7_no mi (-6)).1, (f_X7_no mi (-6)).2)
  else if (f_X7_isFrom r 0 4) = 0 then ((f_X7_no mi (-6)).1, (f_X7_no mi (-6)).2)
    else if (mi (7, 0, 0) 1) = 6 then ((f_X7_no mi (-7)).1, (f_X7_no mi (-7)).2)
      else ((f_X7_addsBeggar mi n r).1, (f_X7_addsBeggar mi n r).2)
set_option maxRecDepth 100000 in
set_option maxHeartbeats 4000000 in
theorem ct_X7_beggar {nC nB : Nat} {mi : MemI} {ml : MemL} {n : Int32} {r : Int32} (hm : k_mo nC nB mi) : k_Ct k_KS k_R0 Mt_X7_beggar 1 [vR (7, 0, 0), vI n, vI r] mi ml (k_rt (some (vI (f_X7_beggar mi n r).1)) (f_X7_beggar mi n r).2 ml) := by
  refine k_ofV (L0 := [vR (7, 0, 0), vI n, vI r]) (by decide +kernel) (Nat.le_of_ble_eq_true rfl) rfl rfl ?_
  intro p l e s m args below meth c D cy ad bs C
  have hC := hm.1
  have h6 := hm.2.1
  have hB := hm.2.2.1
  have h6b := hm.2.2.2.1
  refine k_aload_n (pc := 0) C dX7_beggar_0 rfl ?_
  refine k_iload_n (pc := 1) C dX7_beggar_1 rfl ?_
  refine k_iconst (pc := 2) (v := 1) C dX7_beggar_2 (by decide) ?_
  refine k_bipush (pc := 3) (v := 9) C dX7_beggar_3 (by decide) ?_
  refine k_call3 (pc := 5) C cv_X7_149 ct_X7_isFrom k_in7 rfl (by decide) rfl (Nat.le_of_ble_eq_true rfl) dX7_beggar_5 ?_
  refine k_if_eq (pc := 8) C 21 dX7_beggar_8 (by decide) (fun c8 => ?_) (fun c8 => ?_)
  · skip
    refine k_aload_n (pc := 21) C dX7_beggar_21 rfl ?_
    refine k_bipush (pc := 22) (v := (-6)) C dX7_beggar_22 (by decide) ?_
    refine k_call1 (pc := 24) C cv_X7_139 (ct_X7_no (k_vd (by decide))) k_in7 rfl (by decide) rfl (Nat.le_of_ble_eq_true rfl) dX7_beggar_24 ?_
    exact k_iret (pc := 27) C rfl  (k_fIm (by unfold f_X7_beggar; rw [if_pos c8]; try rfl)) dX7_beggar_27
  · skip
    refine k_aload_n (pc := 11) C dX7_beggar_11 rfl ?_
    refine k_iload_n (pc := 12) C dX7_beggar_12 rfl ?_
    refine k_iconst (pc := 13) (v := 0) C dX7_beggar_13 (by decide) ?_
    refine k_iconst (pc := 14) (v := 4) C dX7_beggar_14 (by decide) ?_
    refine k_call3 (pc := 15) C cv_X7_149 ct_X7_isFrom k_in7 rfl (by decide) rfl (Nat.le_of_ble_eq_true rfl) dX7_beggar_15 ?_
    refine k_if_ne (pc := 18) C 28 dX7_beggar_18 (by decide) (fun c18 => ?_) (fun c18 => ?_)
    · skip
      refine k_aload_n (pc := 28) C dX7_beggar_28 rfl ?_
      refine k_getI (pc := 29) C fl_X7_132 k_in7 rfl rfl dX7_beggar_29 ?_
      refine k_bipush (pc := 32) (v := 6) C dX7_beggar_32 (by decide) ?_
      refine k_icmp_ne (pc := 34) C 46 dX7_beggar_34 (by decide) (fun c34 => ?_) (fun c34 => ?_)
      · skip
        refine k_aload_n (pc := 46) C dX7_beggar_46 rfl ?_
        refine k_iload_n (pc := 47) C dX7_beggar_47 rfl ?_
        refine k_iload_n (pc := 48) C dX7_beggar_48 rfl ?_
        refine k_call2 (pc := 49) C cv_X7_157 (ct_X7_addsBeggar (k_addin hB h6b (by assumption))) k_in7 rfl (by decide) rfl (Nat.le_of_ble_eq_true rfl) dX7_beggar_49 ?_
        exact k_iret (pc := 52) C rfl  (k_fIm (by unfold f_X7_beggar; rw [if_neg c8, if_neg c18, if_neg c34]; try rfl)) dX7_beggar_52
      · skip
        refine k_aload_n (pc := 37) C dX7_beggar_37 rfl ?_
        refine k_bipush (pc := 38) (v := (-7)) C dX7_beggar_38 (by decide) ?_
        refine k_call1 (pc := 40) C cv_X7_139 (ct_X7_no (k_vd (by decide))) k_in7 rfl (by decide) rfl (Nat.le_of_ble_eq_true rfl) dX7_beggar_40 ?_
        refine k_goto (pc := 43) C 52 dX7_beggar_43 (by decide) ?_
        exact k_iret (pc := 52) C rfl  (k_fIm (by unfold f_X7_beggar; rw [if_neg c8, if_neg c18, if_pos c34]; try rfl)) dX7_beggar_52
    · skip
      refine k_aload_n (pc := 21) C dX7_beggar_21 rfl ?_
      refine k_bipush (pc := 22) (v := (-6)) C dX7_beggar_22 (by decide) ?_
      refine k_call1 (pc := 24) C cv_X7_139 (ct_X7_no (k_vd (by decide))) k_in7 rfl (by decide) rfl (Nat.le_of_ble_eq_true rfl) dX7_beggar_24 ?_
      exact k_iret (pc := 27) C rfl  (k_fIm (by unfold f_X7_beggar; rw [if_neg c8, if_pos c18]; try rfl)) dX7_beggar_27
def f_X7_says (mi : MemI) (s0 : Int32) (k : Int32) : Int32 × MemI :=
  if (f_X7_isShelf s0) = 0 then ((f_X7_no mi (-1)).1, (f_X7_no mi (-1)).2)
  else if k < 0 then ((f_X7_no mi (-1)).1, (f_X7_no mi (-1)).2)
    else if k ≤ 6 then if (mi (8, 18, 0) s0.toNatClampNeg) = 1 then ((f_X7_no mi (-2)).1, (f_X7_no mi (-2)).2)
        else if (mi (8, 18, 0) s0.toNatClampNeg) = 0 then ((f_X7_no mi (-3)).1, (f_X7_no mi (-3)).2)
          else if k = 2 then if (mi (8, 6, 0) ((mi (8, 21, 0) s0.toNatClampNeg).toNatClampNeg)) = 3 then if k = (mi (8, 6, 0) ((mi (8, 21, 0) s0.toNatClampNeg).toNatClampNeg)) then (mi (8, 7, 0) ((mi (8, 21, 0) s0.toNatClampNeg).toNatClampNeg), mi)
                else (mi (8, 7, 0) ((mi (8, 21, 0) s0.toNatClampNeg).toNatClampNeg), mi)
              else if (mi (8, 6, 0) ((mi (8, 21, 0) s0.toNatClampNeg).toNatClampNeg)) = 6 then if k = (mi (8, 6, 0) ((mi (8, 21, 0) s0.toNatClampNeg).toNatClampNeg)) then (mi (8, 7, 0) ((mi (8, 21, 0) s0.toNatClampNeg).toNatClampNeg), mi)
                  else (mi (8, 7, 0) ((mi (8, 21, 0) s0.toNatClampNeg).toNatClampNeg), mi)
                else if k = (mi (8, 6, 0) ((mi (8, 21, 0) s0.toNatClampNeg).toNatClampNeg)) then (mi (8, 7, 0) ((mi (8, 21, 0) s0.toNatClampNeg).toNatClampNeg), mi)
                  else ((f_X7_no mi (-2)).1, (f_X7_no mi (-2)).2)
            else if k = 3 then if (mi (8, 6, 0) ((mi (8, 21, 0) s0.toNatClampNeg).toNatClampNeg)) = 6 then if k = (mi (8, 6, 0) ((mi (8, 21, 0) s0.toNatClampNeg).toNatClampNeg)) then (mi (8, 7, 0) ((mi (8, 21, 0) s0.toNatClampNeg).toNatClampNeg), mi)
                  else (mi (8, 7, 0) ((mi (8, 21, 0) s0.toNatClampNeg).toNatClampNeg), mi)
                else if k = (mi (8, 6, 0) ((mi (8, 21, 0) s0.toNatClampNeg).toNatClampNeg)) then (mi (8, 7, 0) ((mi (8, 21, 0) s0.toNatClampNeg).toNatClampNeg), mi)
                  else ((f_X7_no mi (-2)).1, (f_X7_no mi (-2)).2)
              else if k = 4 then if (mi (8, 6, 0) ((mi (8, 21, 0) s0.toNatClampNeg).toNatClampNeg)) = 5 then if k = (mi (8, 6, 0) ((mi (8, 21, 0) s0.toNatClampNeg).toNatClampNeg)) then (mi (8, 11, 0) ((mi (8, 21, 0) s0.toNatClampNeg).toNatClampNeg), mi)
                    else (mi (8, 11, 0) ((mi (8, 21, 0) s0.toNatClampNeg).toNatClampNeg), mi)
                  else if k = (mi (8, 6, 0) ((mi (8, 21, 0) s0.toNatClampNeg).toNatClampNeg)) then (mi (8, 11, 0) ((mi (8, 21, 0) s0.toNatClampNeg).toNatClampNeg), mi)
                    else ((f_X7_no mi (-2)).1, (f_X7_no mi (-2)).2)
                else if k = 0 then (f_X7_face mi (mi (8, 21, 0) s0.toNatClampNeg), mi)
                  else if k = (mi (8, 6, 0) ((mi (8, 21, 0) s0.toNatClampNeg).toNatClampNeg)) then if k = 0 then (f_X7_face mi (mi (8, 21, 0) s0.toNatClampNeg), mi)
                      else if k = 1 then (mi (8, 10, 0) ((mi (8, 21, 0) s0.toNatClampNeg).toNatClampNeg), mi)
                        else if k = 2 then (mi (8, 7, 0) ((mi (8, 21, 0) s0.toNatClampNeg).toNatClampNeg), mi)
                          else if k = 3 then (mi (8, 7, 0) ((mi (8, 21, 0) s0.toNatClampNeg).toNatClampNeg), mi)
                            else if k = 4 then (mi (8, 11, 0) ((mi (8, 21, 0) s0.toNatClampNeg).toNatClampNeg), mi)
                              else if k = 5 then (mi (8, 11, 0) ((mi (8, 21, 0) s0.toNatClampNeg).toNatClampNeg), mi)
                                else (mi (8, 7, 0) ((mi (8, 21, 0) s0.toNatClampNeg).toNatClampNeg), mi)
                    else ((f_X7_no mi (-2)).1, (f_X7_no mi (-2)).2)
      else ((f_X7_no mi (-1)).1, (f_X7_no mi (-1)).2)
set_option maxRecDepth 100000 in
set_option maxHeartbeats 4000000 in
theorem ct_X7_says {mi : MemI} {ml : MemL} {s0 : Int32} {k : Int32} (hsh : ∀ s0, s0 < 8 → ¬ mi (8, 18, 0) s0 = 1 → ¬ mi (8, 18, 0) s0 = 0 → vp_in (mi (8, 21, 0) s0) 6) : k_Ct k_KS k_R0 Mt_X7_says 1 [vR (7, 0, 0), vI s0, vI k] mi ml (k_rt (some (vI (f_X7_says mi s0 k).1)) (f_X7_says mi s0 k).2 ml) := by
  refine k_ofV (L0 := [vR (7, 0, 0), vI s0, vI k, vU, vU, vU]) (by decide +kernel) (Nat.le_of_ble_eq_true rfl) rfl rfl ?_
  intro p l e s m args below meth c D cy ad bs C
  refine k_aload_n (pc := 0) C dX7_says_0 rfl ?_
  refine k_iload_n (pc := 1) C dX7_says_1 rfl ?_
  refine k_call1 (pc := 2) C cv_X7_135 ct_X7_isShelf k_in7 rfl (by decide) rfl (Nat.le_of_ble_eq_true rfl) dX7_says_2 ?_
  refine k_if_eq (pc := 5) C 18 dX7_says_5 (by decide) (fun c5 => ?_) (fun c5 => ?_)
  · skip
    refine k_aload_n (pc := 18) C dX7_says_18 rfl ?_
    refine k_iconst (pc := 19) (v := (-1)) C dX7_says_19 (by decide) ?_
    refine k_call1 (pc := 20) C cv_X7_139 (ct_X7_no (k_vd (by decide))) k_in7 rfl (by decide) rfl (Nat.le_of_ble_eq_true rfl) dX7_says_20 ?_
    exact k_iret (pc := 23) C rfl  (k_fIm (by unfold f_X7_says; rw [if_pos c5]; try rfl)) dX7_says_23
  · skip
    have qc5 := isShelf_in c5
    refine k_iload_n (pc := 8) C dX7_says_8 rfl ?_
    refine k_if_lt (pc := 9) C 18 dX7_says_9 (by decide) (fun c9 => ?_) (fun c9 => ?_)
    · skip
      refine k_aload_n (pc := 18) C dX7_says_18 rfl ?_
      refine k_iconst (pc := 19) (v := (-1)) C dX7_says_19 (by decide) ?_
      refine k_call1 (pc := 20) C cv_X7_139 (ct_X7_no (k_vd (by decide))) k_in7 rfl (by decide) rfl (Nat.le_of_ble_eq_true rfl) dX7_says_20 ?_
      exact k_iret (pc := 23) C rfl  (k_fIm (by unfold f_X7_says; rw [if_neg c5, if_pos c9]; try rfl)) dX7_says_23
    · skip
      refine k_iload_n (pc := 12) C dX7_says_12 rfl ?_
      refine k_bipush (pc := 13) (v := 6) C dX7_says_13 (by decide) ?_
      refine k_icmp_le (pc := 15) C 24 dX7_says_15 (by decide) (fun c15 => ?_) (fun c15 => ?_)
      · skip
        refine k_aload_n (pc := 24) C dX7_says_24 rfl ?_
        refine k_getR (pc := 25) (r := some (8, 18, 0)) C fl_X7_56 k_in7 rfl rfl rfl dX7_says_25 ?_
        refine k_iload_n (pc := 28) C dX7_says_28 rfl ?_
        refine k_ialdX (pc := 29) (j := s0.toNatClampNeg) C rfl (by decide +kernel) rfl (by first | assumption | exact k_vin (N := 8) (n := 8) (by assumption) (by assumption) (by decide)) dX7_says_29 ?_
        refine k_iconst (pc := 30) (v := 1) C dX7_says_30 (by decide) ?_
        refine k_icmp_ne (pc := 31) C 41 dX7_says_31 (by decide) (fun c31 => ?_) (fun c31 => ?_)
        · skip
          refine k_aload_n (pc := 41) C dX7_says_41 rfl ?_
          refine k_getR (pc := 42) (r := some (8, 18, 0)) C fl_X7_56 k_in7 rfl rfl rfl dX7_says_42 ?_
          refine k_iload_n (pc := 45) C dX7_says_45 rfl ?_
          refine k_ialdX (pc := 46) (j := s0.toNatClampNeg) C rfl (by decide +kernel) rfl (by first | assumption | exact k_vin (N := 8) (n := 8) (by assumption) (by assumption) (by decide)) dX7_says_46 ?_
          refine k_if_ne (pc := 47) C 57 dX7_says_47 (by decide) (fun c47 => ?_) (fun c47 => ?_)
          · skip
            have hsc := hsh s0.toNatClampNeg (k_clamp (show vp_in s0 8 by assumption)) c31 c47
            refine k_aload_n (pc := 57) C dX7_says_57 rfl ?_
            refine k_getR (pc := 58) (r := some (8, 21, 0)) C fl_X7_65 k_in7 rfl rfl rfl dX7_says_58 ?_
            refine k_iload_n (pc := 61) C dX7_says_61 rfl ?_
            refine k_ialdX (pc := 62) (j := s0.toNatClampNeg) C rfl (by decide +kernel) rfl (by first | assumption | exact k_vin (N := 8) (n := 8) (by assumption) (by assumption) (by decide)) dX7_says_62 ?_
            refine k_istore_3 (pc := 63) C dX7_says_63 rfl ?_
            refine k_aload_n (pc := 64) C dX7_says_64 rfl ?_
            refine k_getR (pc := 65) (r := some (8, 6, 0)) C fl_X7_20 k_in7 rfl rfl rfl dX7_says_65 ?_
            refine k_iload_n (pc := 68) C dX7_says_68 rfl ?_
            refine k_ialdX (pc := 69) (j := (mi (8, 21, 0) s0.toNatClampNeg).toNatClampNeg) C rfl (by decide +kernel) rfl hsc dX7_says_69 ?_
            refine k_istore_4 (pc := 70) C dX7_says_70 rfl ?_
            refine k_iload_n (pc := 72) C dX7_says_72 rfl ?_
            refine k_iconst (pc := 73) (v := 2) C dX7_says_73 (by decide) ?_
            refine k_icmp_ne (pc := 74) C 90 dX7_says_74 (by decide) (fun c74 => ?_) (fun c74 => ?_)
            · skip
              refine k_iload_n (pc := 90) C dX7_says_90 rfl ?_
              refine k_iconst (pc := 91) (v := 3) C dX7_says_91 (by decide) ?_
              refine k_icmp_ne (pc := 92) C 102 dX7_says_92 (by decide) (fun c92 => ?_) (fun c92 => ?_)
              · skip
                refine k_iload_n (pc := 102) C dX7_says_102 rfl ?_
                refine k_iconst (pc := 103) (v := 4) C dX7_says_103 (by decide) ?_
                refine k_icmp_ne (pc := 104) C 117 dX7_says_104 (by decide) (fun c104 => ?_) (fun c104 => ?_)
                · skip
                  refine k_iconst (pc := 117) (v := 0) C dX7_says_117 (by decide) ?_
                  refine k_istore_5 (pc := 118) C dX7_says_118 rfl ?_
                  refine k_iload_n (pc := 120) C dX7_says_120 rfl ?_
                  refine k_if_eq (pc := 121) C 142 dX7_says_121 (by decide) (fun c121 => ?_) (fun c121 => ?_)
                  · skip
                    refine k_iload_n (pc := 142) C dX7_says_142 rfl ?_
                    refine k_tabIn (pc := 143) (v := 0) C 180 dX7_says_143 c121 (by decide) (by decide) rfl (by decide) ?_
                    refine k_aload_n (pc := 180) C dX7_says_180 rfl ?_
                    refine k_iload_n (pc := 181) C dX7_says_181 rfl ?_
                    refine k_call1 (pc := 182) C cv_X7_146 (ct_X7_face hsc) k_in7 rfl (by decide) rfl (Nat.le_of_ble_eq_true rfl) dX7_says_182 ?_
                    exact k_iret (pc := 185) C rfl  (k_fIm (by unfold f_X7_says; rw [if_neg c5, if_neg c9, if_pos c15, if_neg c31, if_neg c47, if_neg c74, if_neg c92, if_neg c104, if_pos c121]; try rfl)) dX7_says_185
                  · skip
                    refine k_iload_n (pc := 124) C dX7_says_124 rfl ?_
                    refine k_iload (pc := 125) C dX7_says_125 rfl ?_
                    refine k_icmp_eq (pc := 127) C 142 dX7_says_127 (by decide) (fun c127 => ?_) (fun c127 => ?_)
                    · skip
                      refine k_iload_n (pc := 142) C dX7_says_142 rfl ?_
                      by_cases c143_0 : k = 0
                      · skip
                        refine k_tabIn (pc := 143) (v := 0) C 180 dX7_says_143 c143_0 (by decide) (by decide) rfl (by decide) ?_
                        refine k_aload_n (pc := 180) C dX7_says_180 rfl ?_
                        refine k_iload_n (pc := 181) C dX7_says_181 rfl ?_
                        refine k_call1 (pc := 182) C cv_X7_146 (ct_X7_face hsc) k_in7 rfl (by decide) rfl (Nat.le_of_ble_eq_true rfl) dX7_says_182 ?_
                        exact k_iret (pc := 185) C rfl  (k_fIm (by unfold f_X7_says; rw [if_neg c5, if_neg c9, if_pos c15, if_neg c31, if_neg c47, if_neg c74, if_neg c92, if_neg c104, if_neg c121, if_pos c127, if_pos c143_0]; try rfl)) dX7_says_185
                      by_cases c143_1 : k = 1
                      · skip
                        refine k_tabIn (pc := 143) (v := 1) C 186 dX7_says_143 c143_1 (by decide) (by decide) rfl (by decide) ?_
                        refine k_aload_n (pc := 186) C dX7_says_186 rfl ?_
                        refine k_getR (pc := 187) (r := some (8, 10, 0)) C fl_X7_32 k_in7 rfl rfl rfl dX7_says_187 ?_
                        refine k_iload_n (pc := 190) C dX7_says_190 rfl ?_
                        refine k_ialdX (pc := 191) (j := (mi (8, 21, 0) s0.toNatClampNeg).toNatClampNeg) C rfl (by decide +kernel) rfl hsc dX7_says_191 ?_
                        exact k_iret (pc := 192) C rfl  (k_fIm (by unfold f_X7_says; rw [if_neg c5, if_neg c9, if_pos c15, if_neg c31, if_neg c47, if_neg c74, if_neg c92, if_neg c104, if_neg c121, if_pos c127, if_neg c143_0, if_pos c143_1]; try rfl)) dX7_says_192
                      by_cases c143_2 : k = 2
                      · skip
                        refine k_tabIn (pc := 143) (v := 2) C 200 dX7_says_143 c143_2 (by decide) (by decide) rfl (by decide) ?_
                        refine k_aload_n (pc := 200) C dX7_says_200 rfl ?_
                        refine k_getR (pc := 201) (r := some (8, 7, 0)) C fl_X7_23 k_in7 rfl rfl rfl dX7_says_201 ?_
                        refine k_iload_n (pc := 204) C dX7_says_204 rfl ?_
                        refine k_ialdX (pc := 205) (j := (mi (8, 21, 0) s0.toNatClampNeg).toNatClampNeg) C rfl (by decide +kernel) rfl hsc dX7_says_205 ?_
                        exact k_iret (pc := 206) C rfl  (k_fIm (by unfold f_X7_says; rw [if_neg c5, if_neg c9, if_pos c15, if_neg c31, if_neg c47, if_neg c74, if_neg c92, if_neg c104, if_neg c121, if_pos c127, if_neg c143_0, if_neg c143_1, if_pos c143_2]; try rfl)) dX7_says_206
                      by_cases c143_3 : k = 3
                      · skip
                        refine k_tabIn (pc := 143) (v := 3) C 200 dX7_says_143 c143_3 (by decide) (by decide) rfl (by decide) ?_
                        refine k_aload_n (pc := 200) C dX7_says_200 rfl ?_
                        refine k_getR (pc := 201) (r := some (8, 7, 0)) C fl_X7_23 k_in7 rfl rfl rfl dX7_says_201 ?_
                        refine k_iload_n (pc := 204) C dX7_says_204 rfl ?_
                        refine k_ialdX (pc := 205) (j := (mi (8, 21, 0) s0.toNatClampNeg).toNatClampNeg) C rfl (by decide +kernel) rfl hsc dX7_says_205 ?_
                        exact k_iret (pc := 206) C rfl  (k_fIm (by unfold f_X7_says; rw [if_neg c5, if_neg c9, if_pos c15, if_neg c31, if_neg c47, if_neg c74, if_neg c92, if_neg c104, if_neg c121, if_pos c127, if_neg c143_0, if_neg c143_1, if_neg c143_2, if_pos c143_3]; try rfl)) dX7_says_206
                      by_cases c143_4 : k = 4
                      · skip
                        refine k_tabIn (pc := 143) (v := 4) C 193 dX7_says_143 c143_4 (by decide) (by decide) rfl (by decide) ?_
                        refine k_aload_n (pc := 193) C dX7_says_193 rfl ?_
                        refine k_getR (pc := 194) (r := some (8, 11, 0)) C fl_X7_35 k_in7 rfl rfl rfl dX7_says_194 ?_
                        refine k_iload_n (pc := 197) C dX7_says_197 rfl ?_
                        refine k_ialdX (pc := 198) (j := (mi (8, 21, 0) s0.toNatClampNeg).toNatClampNeg) C rfl (by decide +kernel) rfl hsc dX7_says_198 ?_
                        exact k_iret (pc := 199) C rfl  (k_fIm (by unfold f_X7_says; rw [if_neg c5, if_neg c9, if_pos c15, if_neg c31, if_neg c47, if_neg c74, if_neg c92, if_neg c104, if_neg c121, if_pos c127, if_neg c143_0, if_neg c143_1, if_neg c143_2, if_neg c143_3, if_pos c143_4]; try rfl)) dX7_says_199
                      by_cases c143_5 : k = 5
                      · skip
                        refine k_tabIn (pc := 143) (v := 5) C 193 dX7_says_143 c143_5 (by decide) (by decide) rfl (by decide) ?_
                        refine k_aload_n (pc := 193) C dX7_says_193 rfl ?_
                        refine k_getR (pc := 194) (r := some (8, 11, 0)) C fl_X7_35 k_in7 rfl rfl rfl dX7_says_194 ?_
                        refine k_iload_n (pc := 197) C dX7_says_197 rfl ?_
                        refine k_ialdX (pc := 198) (j := (mi (8, 21, 0) s0.toNatClampNeg).toNatClampNeg) C rfl (by decide +kernel) rfl hsc dX7_says_198 ?_
                        exact k_iret (pc := 199) C rfl  (k_fIm (by unfold f_X7_says; rw [if_neg c5, if_neg c9, if_pos c15, if_neg c31, if_neg c47, if_neg c74, if_neg c92, if_neg c104, if_neg c121, if_pos c127, if_neg c143_0, if_neg c143_1, if_neg c143_2, if_neg c143_3, if_neg c143_4, if_pos c143_5]; try rfl)) dX7_says_199
                      refine k_tabOut (pc := 143) C 200 dX7_says_143 (k_out 0 5 (fun v h1 h2 => by rcases (show v = 0 ∨ v = 1 ∨ v = 2 ∨ v = 3 ∨ v = 4 ∨ v = 5 by omega) with rfl | rfl | rfl | rfl | rfl | rfl <;> first | exact c143_0 | exact c143_1 | exact c143_2 | exact c143_3 | exact c143_4 | exact c143_5)) (by decide) ?_
                      refine k_aload_n (pc := 200) C dX7_says_200 rfl ?_
                      refine k_getR (pc := 201) (r := some (8, 7, 0)) C fl_X7_23 k_in7 rfl rfl rfl dX7_says_201 ?_
                      refine k_iload_n (pc := 204) C dX7_says_204 rfl ?_
                      refine k_ialdX (pc := 205) (j := (mi (8, 21, 0) s0.toNatClampNeg).toNatClampNeg) C rfl (by decide +kernel) rfl hsc dX7_says_205 ?_
                      exact k_iret (pc := 206) C rfl  (k_fIm (by unfold f_X7_says; rw [if_neg c5, if_neg c9, if_pos c15, if_neg c31, if_neg c47, if_neg c74, if_neg c92, if_neg c104, if_neg c121, if_pos c127, if_neg c143_0, if_neg c143_1, if_neg c143_2, if_neg c143_3, if_neg c143_4, if_neg c143_5]; try rfl)) dX7_says_206
                    · skip
                      refine k_iload (pc := 130) C dX7_says_130 rfl ?_
                      refine k_if_neF (pc := 132) C 142 dX7_says_132 (by decide) (by decide) ?_
                      refine k_aload_n (pc := 135) C dX7_says_135 rfl ?_
                      refine k_bipush (pc := 136) (v := (-2)) C dX7_says_136 (by decide) ?_
                      refine k_call1 (pc := 138) C cv_X7_139 (ct_X7_no (k_vd (by decide))) k_in7 rfl (by decide) rfl (Nat.le_of_ble_eq_true rfl) dX7_says_138 ?_
                      exact k_iret (pc := 141) C rfl  (k_fIm (by unfold f_X7_says; rw [if_neg c5, if_neg c9, if_pos c15, if_neg c31, if_neg c47, if_neg c74, if_neg c92, if_neg c104, if_neg c121, if_neg c127]; try rfl)) dX7_says_141
                · skip
                  refine k_iload (pc := 107) C dX7_says_107 rfl ?_
                  refine k_iconst (pc := 109) (v := 5) C dX7_says_109 (by decide) ?_
                  refine k_icmp_ne (pc := 110) C 117 dX7_says_110 (by decide) (fun c110 => ?_) (fun c110 => ?_)
                  · skip
                    refine k_iconst (pc := 117) (v := 0) C dX7_says_117 (by decide) ?_
                    refine k_istore_5 (pc := 118) C dX7_says_118 rfl ?_
                    refine k_iload_n (pc := 120) C dX7_says_120 rfl ?_
                    refine k_if_eqF (pc := 121) C 142 dX7_says_121 (by decide) (by rw [c104]; decide) ?_
                    refine k_iload_n (pc := 124) C dX7_says_124 rfl ?_
                    refine k_iload (pc := 125) C dX7_says_125 rfl ?_
                    refine k_icmp_eq (pc := 127) C 142 dX7_says_127 (by decide) (fun c127 => ?_) (fun c127 => ?_)
                    · skip
                      refine k_iload_n (pc := 142) C dX7_says_142 rfl ?_
                      refine k_tabIn (pc := 143) (v := 4) C 193 dX7_says_143 c104 (by decide) (by decide) rfl (by decide) ?_
                      refine k_aload_n (pc := 193) C dX7_says_193 rfl ?_
                      refine k_getR (pc := 194) (r := some (8, 11, 0)) C fl_X7_35 k_in7 rfl rfl rfl dX7_says_194 ?_
                      refine k_iload_n (pc := 197) C dX7_says_197 rfl ?_
                      refine k_ialdX (pc := 198) (j := (mi (8, 21, 0) s0.toNatClampNeg).toNatClampNeg) C rfl (by decide +kernel) rfl hsc dX7_says_198 ?_
                      exact k_iret (pc := 199) C rfl  (k_fIm (by unfold f_X7_says; rw [if_neg c5, if_neg c9, if_pos c15, if_neg c31, if_neg c47, if_neg c74, if_neg c92, if_pos c104, if_neg c110, if_pos c127]; try rfl)) dX7_says_199
                    · skip
                      refine k_iload (pc := 130) C dX7_says_130 rfl ?_
                      refine k_if_neF (pc := 132) C 142 dX7_says_132 (by decide) (by decide) ?_
                      refine k_aload_n (pc := 135) C dX7_says_135 rfl ?_
                      refine k_bipush (pc := 136) (v := (-2)) C dX7_says_136 (by decide) ?_
                      refine k_call1 (pc := 138) C cv_X7_139 (ct_X7_no (k_vd (by decide))) k_in7 rfl (by decide) rfl (Nat.le_of_ble_eq_true rfl) dX7_says_138 ?_
                      exact k_iret (pc := 141) C rfl  (k_fIm (by unfold f_X7_says; rw [if_neg c5, if_neg c9, if_pos c15, if_neg c31, if_neg c47, if_neg c74, if_neg c92, if_pos c104, if_neg c110, if_neg c127]; try rfl)) dX7_says_141
                  · skip
                    refine k_iconst (pc := 113) (v := 1) C dX7_says_113 (by decide) ?_
                    refine k_goto (pc := 114) C 118 dX7_says_114 (by decide) ?_
                    refine k_istore_5 (pc := 118) C dX7_says_118 rfl ?_
                    refine k_iload_n (pc := 120) C dX7_says_120 rfl ?_
                    refine k_if_eqF (pc := 121) C 142 dX7_says_121 (by decide) (by rw [c104]; decide) ?_
                    refine k_iload_n (pc := 124) C dX7_says_124 rfl ?_
                    refine k_iload (pc := 125) C dX7_says_125 rfl ?_
                    refine k_icmp_eq (pc := 127) C 142 dX7_says_127 (by decide) (fun c127 => ?_) (fun c127 => ?_)
                    · skip
                      refine k_iload_n (pc := 142) C dX7_says_142 rfl ?_
                      refine k_tabIn (pc := 143) (v := 4) C 193 dX7_says_143 c104 (by decide) (by decide) rfl (by decide) ?_
                      refine k_aload_n (pc := 193) C dX7_says_193 rfl ?_
                      refine k_getR (pc := 194) (r := some (8, 11, 0)) C fl_X7_35 k_in7 rfl rfl rfl dX7_says_194 ?_
                      refine k_iload_n (pc := 197) C dX7_says_197 rfl ?_
                      refine k_ialdX (pc := 198) (j := (mi (8, 21, 0) s0.toNatClampNeg).toNatClampNeg) C rfl (by decide +kernel) rfl hsc dX7_says_198 ?_
                      exact k_iret (pc := 199) C rfl  (k_fIm (by unfold f_X7_says; rw [if_neg c5, if_neg c9, if_pos c15, if_neg c31, if_neg c47, if_neg c74, if_neg c92, if_pos c104, if_pos c110, if_pos c127]; try rfl)) dX7_says_199
                    · skip
                      refine k_iload (pc := 130) C dX7_says_130 rfl ?_
                      refine k_if_neT (pc := 132) C 142 dX7_says_132 (by decide) (by decide) ?_
                      refine k_iload_n (pc := 142) C dX7_says_142 rfl ?_
                      refine k_tabIn (pc := 143) (v := 4) C 193 dX7_says_143 c104 (by decide) (by decide) rfl (by decide) ?_
                      refine k_aload_n (pc := 193) C dX7_says_193 rfl ?_
                      refine k_getR (pc := 194) (r := some (8, 11, 0)) C fl_X7_35 k_in7 rfl rfl rfl dX7_says_194 ?_
                      refine k_iload_n (pc := 197) C dX7_says_197 rfl ?_
                      refine k_ialdX (pc := 198) (j := (mi (8, 21, 0) s0.toNatClampNeg).toNatClampNeg) C rfl (by decide +kernel) rfl hsc dX7_says_198 ?_
                      exact k_iret (pc := 199) C rfl  (k_fIm (by unfold f_X7_says; rw [if_neg c5, if_neg c9, if_pos c15, if_neg c31, if_neg c47, if_neg c74, if_neg c92, if_pos c104, if_pos c110, if_neg c127]; try rfl)) dX7_says_199
              · skip
                refine k_iload (pc := 95) C dX7_says_95 rfl ?_
                refine k_bipush (pc := 97) (v := 6) C dX7_says_97 (by decide) ?_
                refine k_icmp_eq (pc := 99) C 113 dX7_says_99 (by decide) (fun c99 => ?_) (fun c99 => ?_)
                · skip
                  refine k_iconst (pc := 113) (v := 1) C dX7_says_113 (by decide) ?_
                  refine k_goto (pc := 114) C 118 dX7_says_114 (by decide) ?_
                  refine k_istore_5 (pc := 118) C dX7_says_118 rfl ?_
                  refine k_iload_n (pc := 120) C dX7_says_120 rfl ?_
                  refine k_if_eqF (pc := 121) C 142 dX7_says_121 (by decide) (by rw [c92]; decide) ?_
                  refine k_iload_n (pc := 124) C dX7_says_124 rfl ?_
                  refine k_iload (pc := 125) C dX7_says_125 rfl ?_
                  refine k_icmp_eq (pc := 127) C 142 dX7_says_127 (by decide) (fun c127 => ?_) (fun c127 => ?_)
                  · skip
                    refine k_iload_n (pc := 142) C dX7_says_142 rfl ?_
                    refine k_tabIn (pc := 143) (v := 3) C 200 dX7_says_143 c92 (by decide) (by decide) rfl (by decide) ?_
                    refine k_aload_n (pc := 200) C dX7_says_200 rfl ?_
                    refine k_getR (pc := 201) (r := some (8, 7, 0)) C fl_X7_23 k_in7 rfl rfl rfl dX7_says_201 ?_
                    refine k_iload_n (pc := 204) C dX7_says_204 rfl ?_
                    refine k_ialdX (pc := 205) (j := (mi (8, 21, 0) s0.toNatClampNeg).toNatClampNeg) C rfl (by decide +kernel) rfl hsc dX7_says_205 ?_
                    exact k_iret (pc := 206) C rfl  (k_fIm (by unfold f_X7_says; rw [if_neg c5, if_neg c9, if_pos c15, if_neg c31, if_neg c47, if_neg c74, if_pos c92, if_pos c99, if_pos c127]; try rfl)) dX7_says_206
                  · skip
                    refine k_iload (pc := 130) C dX7_says_130 rfl ?_
                    refine k_if_neT (pc := 132) C 142 dX7_says_132 (by decide) (by decide) ?_
                    refine k_iload_n (pc := 142) C dX7_says_142 rfl ?_
                    refine k_tabIn (pc := 143) (v := 3) C 200 dX7_says_143 c92 (by decide) (by decide) rfl (by decide) ?_
                    refine k_aload_n (pc := 200) C dX7_says_200 rfl ?_
                    refine k_getR (pc := 201) (r := some (8, 7, 0)) C fl_X7_23 k_in7 rfl rfl rfl dX7_says_201 ?_
                    refine k_iload_n (pc := 204) C dX7_says_204 rfl ?_
                    refine k_ialdX (pc := 205) (j := (mi (8, 21, 0) s0.toNatClampNeg).toNatClampNeg) C rfl (by decide +kernel) rfl hsc dX7_says_205 ?_
                    exact k_iret (pc := 206) C rfl  (k_fIm (by unfold f_X7_says; rw [if_neg c5, if_neg c9, if_pos c15, if_neg c31, if_neg c47, if_neg c74, if_pos c92, if_pos c99, if_neg c127]; try rfl)) dX7_says_206
                · skip
                  refine k_iload_n (pc := 102) C dX7_says_102 rfl ?_
                  refine k_iconst (pc := 103) (v := 4) C dX7_says_103 (by decide) ?_
                  refine k_icmp_neT (pc := 104) C 117 dX7_says_104 (by decide) (by rw [c92]; decide) ?_
                  refine k_iconst (pc := 117) (v := 0) C dX7_says_117 (by decide) ?_
                  refine k_istore_5 (pc := 118) C dX7_says_118 rfl ?_
                  refine k_iload_n (pc := 120) C dX7_says_120 rfl ?_
                  refine k_if_eqF (pc := 121) C 142 dX7_says_121 (by decide) (by rw [c92]; decide) ?_
                  refine k_iload_n (pc := 124) C dX7_says_124 rfl ?_
                  refine k_iload (pc := 125) C dX7_says_125 rfl ?_
                  refine k_icmp_eq (pc := 127) C 142 dX7_says_127 (by decide) (fun c127 => ?_) (fun c127 => ?_)
                  · skip
                    refine k_iload_n (pc := 142) C dX7_says_142 rfl ?_
                    refine k_tabIn (pc := 143) (v := 3) C 200 dX7_says_143 c92 (by decide) (by decide) rfl (by decide) ?_
                    refine k_aload_n (pc := 200) C dX7_says_200 rfl ?_
                    refine k_getR (pc := 201) (r := some (8, 7, 0)) C fl_X7_23 k_in7 rfl rfl rfl dX7_says_201 ?_
                    refine k_iload_n (pc := 204) C dX7_says_204 rfl ?_
                    refine k_ialdX (pc := 205) (j := (mi (8, 21, 0) s0.toNatClampNeg).toNatClampNeg) C rfl (by decide +kernel) rfl hsc dX7_says_205 ?_
                    exact k_iret (pc := 206) C rfl  (k_fIm (by unfold f_X7_says; rw [if_neg c5, if_neg c9, if_pos c15, if_neg c31, if_neg c47, if_neg c74, if_pos c92, if_neg c99, if_pos c127]; try rfl)) dX7_says_206
                  · skip
                    refine k_iload (pc := 130) C dX7_says_130 rfl ?_
                    refine k_if_neF (pc := 132) C 142 dX7_says_132 (by decide) (by decide) ?_
                    refine k_aload_n (pc := 135) C dX7_says_135 rfl ?_
                    refine k_bipush (pc := 136) (v := (-2)) C dX7_says_136 (by decide) ?_
                    refine k_call1 (pc := 138) C cv_X7_139 (ct_X7_no (k_vd (by decide))) k_in7 rfl (by decide) rfl (Nat.le_of_ble_eq_true rfl) dX7_says_138 ?_
                    exact k_iret (pc := 141) C rfl  (k_fIm (by unfold f_X7_says; rw [if_neg c5, if_neg c9, if_pos c15, if_neg c31, if_neg c47, if_neg c74, if_pos c92, if_neg c99, if_neg c127]; try rfl)) dX7_says_141
            · skip
              refine k_iload (pc := 77) C dX7_says_77 rfl ?_
              refine k_iconst (pc := 79) (v := 3) C dX7_says_79 (by decide) ?_
              refine k_icmp_eq (pc := 80) C 113 dX7_says_80 (by decide) (fun c80 => ?_) (fun c80 => ?_)
              · skip
                refine k_iconst (pc := 113) (v := 1) C dX7_says_113 (by decide) ?_
                refine k_goto (pc := 114) C 118 dX7_says_114 (by decide) ?_
                refine k_istore_5 (pc := 118) C dX7_says_118 rfl ?_
                refine k_iload_n (pc := 120) C dX7_says_120 rfl ?_
                refine k_if_eqF (pc := 121) C 142 dX7_says_121 (by decide) (by rw [c74]; decide) ?_
                refine k_iload_n (pc := 124) C dX7_says_124 rfl ?_
                refine k_iload (pc := 125) C dX7_says_125 rfl ?_
                refine k_icmp_eq (pc := 127) C 142 dX7_says_127 (by decide) (fun c127 => ?_) (fun c127 => ?_)
                · skip
                  refine k_iload_n (pc := 142) C dX7_says_142 rfl ?_
                  refine k_tabIn (pc := 143) (v := 2) C 200 dX7_says_143 c74 (by decide) (by decide) rfl (by decide) ?_
                  refine k_aload_n (pc := 200) C dX7_says_200 rfl ?_
                  refine k_getR (pc := 201) (r := some (8, 7, 0)) C fl_X7_23 k_in7 rfl rfl rfl dX7_says_201 ?_
                  refine k_iload_n (pc := 204) C dX7_says_204 rfl ?_
                  refine k_ialdX (pc := 205) (j := (mi (8, 21, 0) s0.toNatClampNeg).toNatClampNeg) C rfl (by decide +kernel) rfl hsc dX7_says_205 ?_
                  exact k_iret (pc := 206) C rfl  (k_fIm (by unfold f_X7_says; rw [if_neg c5, if_neg c9, if_pos c15, if_neg c31, if_neg c47, if_pos c74, if_pos c80, if_pos c127]; try rfl)) dX7_says_206
                · skip
                  refine k_iload (pc := 130) C dX7_says_130 rfl ?_
                  refine k_if_neT (pc := 132) C 142 dX7_says_132 (by decide) (by decide) ?_
                  refine k_iload_n (pc := 142) C dX7_says_142 rfl ?_
                  refine k_tabIn (pc := 143) (v := 2) C 200 dX7_says_143 c74 (by decide) (by decide) rfl (by decide) ?_
                  refine k_aload_n (pc := 200) C dX7_says_200 rfl ?_
                  refine k_getR (pc := 201) (r := some (8, 7, 0)) C fl_X7_23 k_in7 rfl rfl rfl dX7_says_201 ?_
                  refine k_iload_n (pc := 204) C dX7_says_204 rfl ?_
                  refine k_ialdX (pc := 205) (j := (mi (8, 21, 0) s0.toNatClampNeg).toNatClampNeg) C rfl (by decide +kernel) rfl hsc dX7_says_205 ?_
                  exact k_iret (pc := 206) C rfl  (k_fIm (by unfold f_X7_says; rw [if_neg c5, if_neg c9, if_pos c15, if_neg c31, if_neg c47, if_pos c74, if_pos c80, if_neg c127]; try rfl)) dX7_says_206
              · skip
                refine k_iload (pc := 83) C dX7_says_83 rfl ?_
                refine k_bipush (pc := 85) (v := 6) C dX7_says_85 (by decide) ?_
                refine k_icmp_eq (pc := 87) C 113 dX7_says_87 (by decide) (fun c87 => ?_) (fun c87 => ?_)
                · skip
                  refine k_iconst (pc := 113) (v := 1) C dX7_says_113 (by decide) ?_
                  refine k_goto (pc := 114) C 118 dX7_says_114 (by decide) ?_
                  refine k_istore_5 (pc := 118) C dX7_says_118 rfl ?_
                  refine k_iload_n (pc := 120) C dX7_says_120 rfl ?_
                  refine k_if_eqF (pc := 121) C 142 dX7_says_121 (by decide) (by rw [c74]; decide) ?_
                  refine k_iload_n (pc := 124) C dX7_says_124 rfl ?_
                  refine k_iload (pc := 125) C dX7_says_125 rfl ?_
                  refine k_icmp_eq (pc := 127) C 142 dX7_says_127 (by decide) (fun c127 => ?_) (fun c127 => ?_)
                  · skip
                    refine k_iload_n (pc := 142) C dX7_says_142 rfl ?_
                    refine k_tabIn (pc := 143) (v := 2) C 200 dX7_says_143 c74 (by decide) (by decide) rfl (by decide) ?_
                    refine k_aload_n (pc := 200) C dX7_says_200 rfl ?_
                    refine k_getR (pc := 201) (r := some (8, 7, 0)) C fl_X7_23 k_in7 rfl rfl rfl dX7_says_201 ?_
                    refine k_iload_n (pc := 204) C dX7_says_204 rfl ?_
                    refine k_ialdX (pc := 205) (j := (mi (8, 21, 0) s0.toNatClampNeg).toNatClampNeg) C rfl (by decide +kernel) rfl hsc dX7_says_205 ?_
                    exact k_iret (pc := 206) C rfl  (k_fIm (by unfold f_X7_says; rw [if_neg c5, if_neg c9, if_pos c15, if_neg c31, if_neg c47, if_pos c74, if_neg c80, if_pos c87, if_pos c127]; try rfl)) dX7_says_206
                  · skip
                    refine k_iload (pc := 130) C dX7_says_130 rfl ?_
                    refine k_if_neT (pc := 132) C 142 dX7_says_132 (by decide) (by decide) ?_
                    refine k_iload_n (pc := 142) C dX7_says_142 rfl ?_
                    refine k_tabIn (pc := 143) (v := 2) C 200 dX7_says_143 c74 (by decide) (by decide) rfl (by decide) ?_
                    refine k_aload_n (pc := 200) C dX7_says_200 rfl ?_
                    refine k_getR (pc := 201) (r := some (8, 7, 0)) C fl_X7_23 k_in7 rfl rfl rfl dX7_says_201 ?_
                    refine k_iload_n (pc := 204) C dX7_says_204 rfl ?_
                    refine k_ialdX (pc := 205) (j := (mi (8, 21, 0) s0.toNatClampNeg).toNatClampNeg) C rfl (by decide +kernel) rfl hsc dX7_says_205 ?_
                    exact k_iret (pc := 206) C rfl  (k_fIm (by unfold f_X7_says; rw [if_neg c5, if_neg c9, if_pos c15, if_neg c31, if_neg c47, if_pos c74, if_neg c80, if_pos c87, if_neg c127]; try rfl)) dX7_says_206
                · skip
                  refine k_iload_n (pc := 90) C dX7_says_90 rfl ?_
                  refine k_iconst (pc := 91) (v := 3) C dX7_says_91 (by decide) ?_
                  refine k_icmp_neT (pc := 92) C 102 dX7_says_92 (by decide) (by rw [c74]; decide) ?_
                  refine k_iload_n (pc := 102) C dX7_says_102 rfl ?_
                  refine k_iconst (pc := 103) (v := 4) C dX7_says_103 (by decide) ?_
                  refine k_icmp_neT (pc := 104) C 117 dX7_says_104 (by decide) (by rw [c74]; decide) ?_
                  refine k_iconst (pc := 117) (v := 0) C dX7_says_117 (by decide) ?_
                  refine k_istore_5 (pc := 118) C dX7_says_118 rfl ?_
                  refine k_iload_n (pc := 120) C dX7_says_120 rfl ?_
                  refine k_if_eqF (pc := 121) C 142 dX7_says_121 (by decide) (by rw [c74]; decide) ?_
                  refine k_iload_n (pc := 124) C dX7_says_124 rfl ?_
                  refine k_iload (pc := 125) C dX7_says_125 rfl ?_
                  refine k_icmp_eq (pc := 127) C 142 dX7_says_127 (by decide) (fun c127 => ?_) (fun c127 => ?_)
                  · skip
                    refine k_iload_n (pc := 142) C dX7_says_142 rfl ?_
                    refine k_tabIn (pc := 143) (v := 2) C 200 dX7_says_143 c74 (by decide) (by decide) rfl (by decide) ?_
                    refine k_aload_n (pc := 200) C dX7_says_200 rfl ?_
                    refine k_getR (pc := 201) (r := some (8, 7, 0)) C fl_X7_23 k_in7 rfl rfl rfl dX7_says_201 ?_
                    refine k_iload_n (pc := 204) C dX7_says_204 rfl ?_
                    refine k_ialdX (pc := 205) (j := (mi (8, 21, 0) s0.toNatClampNeg).toNatClampNeg) C rfl (by decide +kernel) rfl hsc dX7_says_205 ?_
                    exact k_iret (pc := 206) C rfl  (k_fIm (by unfold f_X7_says; rw [if_neg c5, if_neg c9, if_pos c15, if_neg c31, if_neg c47, if_pos c74, if_neg c80, if_neg c87, if_pos c127]; try rfl)) dX7_says_206
                  · skip
                    refine k_iload (pc := 130) C dX7_says_130 rfl ?_
                    refine k_if_neF (pc := 132) C 142 dX7_says_132 (by decide) (by decide) ?_
                    refine k_aload_n (pc := 135) C dX7_says_135 rfl ?_
                    refine k_bipush (pc := 136) (v := (-2)) C dX7_says_136 (by decide) ?_
                    refine k_call1 (pc := 138) C cv_X7_139 (ct_X7_no (k_vd (by decide))) k_in7 rfl (by decide) rfl (Nat.le_of_ble_eq_true rfl) dX7_says_138 ?_
                    exact k_iret (pc := 141) C rfl  (k_fIm (by unfold f_X7_says; rw [if_neg c5, if_neg c9, if_pos c15, if_neg c31, if_neg c47, if_pos c74, if_neg c80, if_neg c87, if_neg c127]; try rfl)) dX7_says_141
          · skip
            refine k_aload_n (pc := 50) C dX7_says_50 rfl ?_
            refine k_bipush (pc := 51) (v := (-3)) C dX7_says_51 (by decide) ?_
            refine k_call1 (pc := 53) C cv_X7_139 (ct_X7_no (k_vd (by decide))) k_in7 rfl (by decide) rfl (Nat.le_of_ble_eq_true rfl) dX7_says_53 ?_
            exact k_iret (pc := 56) C rfl  (k_fIm (by unfold f_X7_says; rw [if_neg c5, if_neg c9, if_pos c15, if_neg c31, if_pos c47]; try rfl)) dX7_says_56
        · skip
          refine k_aload_n (pc := 34) C dX7_says_34 rfl ?_
          refine k_bipush (pc := 35) (v := (-2)) C dX7_says_35 (by decide) ?_
          refine k_call1 (pc := 37) C cv_X7_139 (ct_X7_no (k_vd (by decide))) k_in7 rfl (by decide) rfl (Nat.le_of_ble_eq_true rfl) dX7_says_37 ?_
          exact k_iret (pc := 40) C rfl  (k_fIm (by unfold f_X7_says; rw [if_neg c5, if_neg c9, if_pos c15, if_pos c31]; try rfl)) dX7_says_40
      · skip
        refine k_aload_n (pc := 18) C dX7_says_18 rfl ?_
        refine k_iconst (pc := 19) (v := (-1)) C dX7_says_19 (by decide) ?_
        refine k_call1 (pc := 20) C cv_X7_139 (ct_X7_no (k_vd (by decide))) k_in7 rfl (by decide) rfl (Nat.le_of_ble_eq_true rfl) dX7_says_20 ?_
        exact k_iret (pc := 23) C rfl  (k_fIm (by unfold f_X7_says; rw [if_neg c5, if_neg c9, if_neg c15]; try rfl)) dX7_says_23
def f_X7_looking (mi : MemI) (cz : Int32) (x : Int32) : Int32 × MemI :=
  if (mi (8, 6, 0) cz.toNatClampNeg) = 1 then (x + cz, f_X7_body mi 10)
  else if (mi (8, 6, 0) cz.toNatClampNeg) = 2 then ((x + cz) * 3, f_X7_body (f_X7_body mi 30) 10)
    else if (mi (8, 6, 0) cz.toNatClampNeg) = 3 then (((x + 1) + cz) * 3, f_X7_body (f_X7_body (f_X7_body mi 40) 30) 10)
      else if (mi (8, 6, 0) cz.toNatClampNeg) = 4 then ((x + cz) - cz, f_X7_body (f_X7_body mi 51) 10)
        else if (mi (8, 6, 0) cz.toNatClampNeg) = 5 then ((x + cz) - cz, f_X7_body (f_X7_body mi 51) 10)
          else if (mi (8, 6, 0) cz.toNatClampNeg) = 6 then ((((x + 1) + cz) * 3) * 2, f_X7_body (f_X7_body (f_X7_body (f_X7_body mi 70) 40) 30) 10)
            else (x + cz, f_X7_body mi 10)
set_option maxRecDepth 100000 in
set_option maxHeartbeats 4000000 in
theorem ct_X7_looking {r : Nat} {mi : MemI} {ml : MemL} {cz : Int32} {x : Int32} (hc : vp_in cz 6) (hr : mi (7, 0, 0) 51 = nI r) (hr9 : r < 500) : k_Ct k_KS k_R0 Mt_X7_looking 1 [vR (7, 0, 0), vI cz, vI x] mi ml (k_rt (some (vI (f_X7_looking mi cz x).1)) (f_X7_looking mi cz x).2 ml) := by
  refine k_ofV (L0 := [vR (7, 0, 0), vI cz, vI x, vU, vU, vU, vU, vU, vU]) (by decide +kernel) (Nat.le_of_ble_eq_true rfl) rfl rfl ?_
  intro p l e s m args below meth c D cy ad bs C
  refine k_aload_n (pc := 0) C dX7_looking_0 rfl ?_
  refine k_getR (pc := 1) (r := some (8, 6, 0)) C fl_X7_20 k_in7 rfl rfl rfl dX7_looking_1 ?_
  refine k_iload_n (pc := 4) C dX7_looking_4 rfl ?_
  refine k_ialdX (pc := 5) (j := cz.toNatClampNeg) C rfl (by decide +kernel) rfl hc dX7_looking_5 ?_
  refine k_istore_3 (pc := 6) C dX7_looking_6 rfl ?_
  by_cases k1 : (mi (8, 6, 0) cz.toNatClampNeg) = 1
  · skip
    refine k_cast (L' := [vR (7, 0, 0), vI cz, vI x, vI 1, vU, vU, vU, vU, vU]) (by rw [k1]) rfl rfl ?_
    refine k_iload_n (pc := 7) C dX7_looking_7 rfl ?_
    refine k_istore_4 (pc := 8) C dX7_looking_8 rfl ?_
    refine k_iload_n (pc := 10) C dX7_looking_10 rfl ?_
    refine k_iconst (pc := 11) (v := 3) C dX7_looking_11 (by decide) ?_
    refine k_icmp_eqF (pc := 12) C 21 dX7_looking_12 (by decide) (by decide) ?_
    refine k_iload_n (pc := 15) C dX7_looking_15 rfl ?_
    refine k_bipush (pc := 16) (v := 6) C dX7_looking_16 (by decide) ?_
    refine k_icmp_neT (pc := 18) C 25 dX7_looking_18 (by decide) (by decide) ?_
    refine k_iconst (pc := 25) (v := 0) C dX7_looking_25 (by decide) ?_
    refine k_istore_5 (pc := 26) C dX7_looking_26 rfl ?_
    refine k_iload (pc := 28) C dX7_looking_28 rfl ?_
    refine k_if_neF (pc := 30) C 38 dX7_looking_30 (by decide) (by decide) ?_
    refine k_iload_n (pc := 33) C dX7_looking_33 rfl ?_
    refine k_iconst (pc := 34) (v := 2) C dX7_looking_34 (by decide) ?_
    refine k_icmp_neT (pc := 35) C 42 dX7_looking_35 (by decide) (by decide) ?_
    refine k_iconst (pc := 42) (v := 0) C dX7_looking_42 (by decide) ?_
    refine k_istore_6 (pc := 43) C dX7_looking_43 rfl ?_
    refine k_iload_n (pc := 45) C dX7_looking_45 rfl ?_
    refine k_iconst (pc := 46) (v := 4) C dX7_looking_46 (by decide) ?_
    refine k_icmp_eqF (pc := 47) C 55 dX7_looking_47 (by decide) (by decide) ?_
    refine k_iload_n (pc := 50) C dX7_looking_50 rfl ?_
    refine k_iconst (pc := 51) (v := 5) C dX7_looking_51 (by decide) ?_
    refine k_icmp_neT (pc := 52) C 59 dX7_looking_52 (by decide) (by decide) ?_
    refine k_iconst (pc := 59) (v := 0) C dX7_looking_59 (by decide) ?_
    refine k_istore_7 (pc := 60) C dX7_looking_60 rfl ?_
    refine k_iload_n (pc := 62) C dX7_looking_62 rfl ?_
    refine k_bipush (pc := 63) (v := 6) C dX7_looking_63 (by decide) ?_
    refine k_icmp_neT (pc := 65) C 74 dX7_looking_65 (by decide) (by decide) ?_
    refine k_iload (pc := 74) C dX7_looking_74 rfl ?_
    refine k_if_eqT (pc := 76) C 90 dX7_looking_76 (by decide) (by decide) ?_
    refine k_iload (pc := 90) C dX7_looking_90 rfl ?_
    refine k_if_eqT (pc := 92) C 101 dX7_looking_92 (by decide) (by decide) ?_
    refine k_iload (pc := 101) C dX7_looking_101 rfl ?_
    refine k_if_eqT (pc := 103) C 112 dX7_looking_103 (by decide) (by decide) ?_
    refine k_aload_n (pc := 112) C dX7_looking_112 rfl ?_
    refine k_bipush (pc := 113) (v := 10) C dX7_looking_113 (by decide) ?_
    refine k_callv1 (pc := 115) C cv_X7_278 (ct_X7_body (k_nneg hr (by omega))) k_in7 rfl (by decide) rfl (Nat.le_of_ble_eq_true rfl) dX7_looking_115 ?_
    refine k_iload (pc := 118) C dX7_looking_118 rfl ?_
    refine k_iload_n (pc := 120) C dX7_looking_120 rfl ?_
    refine k_iadd (pc := 121) C dX7_looking_121 ?_
    refine k_istore_8 (pc := 122) C dX7_looking_122 rfl ?_
    refine k_iload (pc := 124) C dX7_looking_124 rfl ?_
    refine k_if_eqT (pc := 126) C 135 dX7_looking_126 (by decide) (by decide) ?_
    refine k_iload (pc := 135) C dX7_looking_135 rfl ?_
    refine k_if_eqT (pc := 137) C 146 dX7_looking_137 (by decide) (by decide) ?_
    refine k_iload_n (pc := 146) C dX7_looking_146 rfl ?_
    refine k_bipush (pc := 147) (v := 6) C dX7_looking_147 (by decide) ?_
    refine k_icmp_neT (pc := 149) C 159 dX7_looking_149 (by decide) (by decide) ?_
    refine k_iload (pc := 159) C dX7_looking_159 rfl ?_
    exact k_iret (pc := 161) C rfl  (k_fIm (by unfold f_X7_looking; rw [if_pos k1]; try rfl)) dX7_looking_161
  · skip
    by_cases k2 : (mi (8, 6, 0) cz.toNatClampNeg) = 2
    · skip
      refine k_cast (L' := [vR (7, 0, 0), vI cz, vI x, vI 2, vU, vU, vU, vU, vU]) (by rw [k2]) rfl rfl ?_
      refine k_iload_n (pc := 7) C dX7_looking_7 rfl ?_
      refine k_istore_4 (pc := 8) C dX7_looking_8 rfl ?_
      refine k_iload_n (pc := 10) C dX7_looking_10 rfl ?_
      refine k_iconst (pc := 11) (v := 3) C dX7_looking_11 (by decide) ?_
      refine k_icmp_eqF (pc := 12) C 21 dX7_looking_12 (by decide) (by decide) ?_
      refine k_iload_n (pc := 15) C dX7_looking_15 rfl ?_
      refine k_bipush (pc := 16) (v := 6) C dX7_looking_16 (by decide) ?_
      refine k_icmp_neT (pc := 18) C 25 dX7_looking_18 (by decide) (by decide) ?_
      refine k_iconst (pc := 25) (v := 0) C dX7_looking_25 (by decide) ?_
      refine k_istore_5 (pc := 26) C dX7_looking_26 rfl ?_
      refine k_iload (pc := 28) C dX7_looking_28 rfl ?_
      refine k_if_neF (pc := 30) C 38 dX7_looking_30 (by decide) (by decide) ?_
      refine k_iload_n (pc := 33) C dX7_looking_33 rfl ?_
      refine k_iconst (pc := 34) (v := 2) C dX7_looking_34 (by decide) ?_
      refine k_icmp_neF (pc := 35) C 42 dX7_looking_35 (by decide) (by decide) ?_
      refine k_iconst (pc := 38) (v := 1) C dX7_looking_38 (by decide) ?_
      refine k_goto (pc := 39) C 43 dX7_looking_39 (by decide) ?_
      refine k_istore_6 (pc := 43) C dX7_looking_43 rfl ?_
      refine k_iload_n (pc := 45) C dX7_looking_45 rfl ?_
      refine k_iconst (pc := 46) (v := 4) C dX7_looking_46 (by decide) ?_
      refine k_icmp_eqF (pc := 47) C 55 dX7_looking_47 (by decide) (by decide) ?_
      refine k_iload_n (pc := 50) C dX7_looking_50 rfl ?_
      refine k_iconst (pc := 51) (v := 5) C dX7_looking_51 (by decide) ?_
      refine k_icmp_neT (pc := 52) C 59 dX7_looking_52 (by decide) (by decide) ?_
      refine k_iconst (pc := 59) (v := 0) C dX7_looking_59 (by decide) ?_
      refine k_istore_7 (pc := 60) C dX7_looking_60 rfl ?_
      refine k_iload_n (pc := 62) C dX7_looking_62 rfl ?_
      refine k_bipush (pc := 63) (v := 6) C dX7_looking_63 (by decide) ?_
      refine k_icmp_neT (pc := 65) C 74 dX7_looking_65 (by decide) (by decide) ?_
      refine k_iload (pc := 74) C dX7_looking_74 rfl ?_
      refine k_if_eqT (pc := 76) C 90 dX7_looking_76 (by decide) (by decide) ?_
      refine k_iload (pc := 90) C dX7_looking_90 rfl ?_
      refine k_if_eqF (pc := 92) C 101 dX7_looking_92 (by decide) (by decide) ?_
      refine k_aload_n (pc := 95) C dX7_looking_95 rfl ?_
      refine k_bipush (pc := 96) (v := 30) C dX7_looking_96 (by decide) ?_
      refine k_callv1 (pc := 98) C cv_X7_278 (ct_X7_body (k_nneg hr (by omega))) k_in7 rfl (by decide) rfl (Nat.le_of_ble_eq_true rfl) dX7_looking_98 ?_
      refine k_iload (pc := 101) C dX7_looking_101 rfl ?_
      refine k_if_eqT (pc := 103) C 112 dX7_looking_103 (by decide) (by decide) ?_
      refine k_aload_n (pc := 112) C dX7_looking_112 rfl ?_
      refine k_bipush (pc := 113) (v := 10) C dX7_looking_113 (by decide) ?_
      refine k_callv1 (pc := 115) C cv_X7_278 (ct_X7_body (k_nneg (body_ran hr) (by omega))) k_in7 rfl (by decide) rfl (Nat.le_of_ble_eq_true rfl) dX7_looking_115 ?_
      refine k_iload (pc := 118) C dX7_looking_118 rfl ?_
      refine k_iload_n (pc := 120) C dX7_looking_120 rfl ?_
      refine k_iadd (pc := 121) C dX7_looking_121 ?_
      refine k_istore_8 (pc := 122) C dX7_looking_122 rfl ?_
      refine k_iload (pc := 124) C dX7_looking_124 rfl ?_
      refine k_if_eqF (pc := 126) C 135 dX7_looking_126 (by decide) (by decide) ?_
      refine k_iload (pc := 129) C dX7_looking_129 rfl ?_
      refine k_iconst (pc := 131) (v := 3) C dX7_looking_131 (by decide) ?_
      refine k_imul (pc := 132) C dX7_looking_132 ?_
      refine k_istore_8 (pc := 133) C dX7_looking_133 rfl ?_
      refine k_iload (pc := 135) C dX7_looking_135 rfl ?_
      refine k_if_eqT (pc := 137) C 146 dX7_looking_137 (by decide) (by decide) ?_
      refine k_iload_n (pc := 146) C dX7_looking_146 rfl ?_
      refine k_bipush (pc := 147) (v := 6) C dX7_looking_147 (by decide) ?_
      refine k_icmp_neT (pc := 149) C 159 dX7_looking_149 (by decide) (by decide) ?_
      refine k_iload (pc := 159) C dX7_looking_159 rfl ?_
      exact k_iret (pc := 161) C rfl  (k_fIm (by unfold f_X7_looking; rw [if_neg k1, if_pos k2]; try rfl)) dX7_looking_161
    · skip
      by_cases k3 : (mi (8, 6, 0) cz.toNatClampNeg) = 3
      · skip
        refine k_cast (L' := [vR (7, 0, 0), vI cz, vI x, vI 3, vU, vU, vU, vU, vU]) (by rw [k3]) rfl rfl ?_
        refine k_iload_n (pc := 7) C dX7_looking_7 rfl ?_
        refine k_istore_4 (pc := 8) C dX7_looking_8 rfl ?_
        refine k_iload_n (pc := 10) C dX7_looking_10 rfl ?_
        refine k_iconst (pc := 11) (v := 3) C dX7_looking_11 (by decide) ?_
        refine k_icmp_eqT (pc := 12) C 21 dX7_looking_12 (by decide) (by decide) ?_
        refine k_iconst (pc := 21) (v := 1) C dX7_looking_21 (by decide) ?_
        refine k_goto (pc := 22) C 26 dX7_looking_22 (by decide) ?_
        refine k_istore_5 (pc := 26) C dX7_looking_26 rfl ?_
        refine k_iload (pc := 28) C dX7_looking_28 rfl ?_
        refine k_if_neT (pc := 30) C 38 dX7_looking_30 (by decide) (by decide) ?_
        refine k_iconst (pc := 38) (v := 1) C dX7_looking_38 (by decide) ?_
        refine k_goto (pc := 39) C 43 dX7_looking_39 (by decide) ?_
        refine k_istore_6 (pc := 43) C dX7_looking_43 rfl ?_
        refine k_iload_n (pc := 45) C dX7_looking_45 rfl ?_
        refine k_iconst (pc := 46) (v := 4) C dX7_looking_46 (by decide) ?_
        refine k_icmp_eqF (pc := 47) C 55 dX7_looking_47 (by decide) (by decide) ?_
        refine k_iload_n (pc := 50) C dX7_looking_50 rfl ?_
        refine k_iconst (pc := 51) (v := 5) C dX7_looking_51 (by decide) ?_
        refine k_icmp_neT (pc := 52) C 59 dX7_looking_52 (by decide) (by decide) ?_
        refine k_iconst (pc := 59) (v := 0) C dX7_looking_59 (by decide) ?_
        refine k_istore_7 (pc := 60) C dX7_looking_60 rfl ?_
        refine k_iload_n (pc := 62) C dX7_looking_62 rfl ?_
        refine k_bipush (pc := 63) (v := 6) C dX7_looking_63 (by decide) ?_
        refine k_icmp_neT (pc := 65) C 74 dX7_looking_65 (by decide) (by decide) ?_
        refine k_iload (pc := 74) C dX7_looking_74 rfl ?_
        refine k_if_eqF (pc := 76) C 90 dX7_looking_76 (by decide) (by decide) ?_
        refine k_aload_n (pc := 79) C dX7_looking_79 rfl ?_
        refine k_bipush (pc := 80) (v := 40) C dX7_looking_80 (by decide) ?_
        refine k_callv1 (pc := 82) C cv_X7_278 (ct_X7_body (k_nneg hr (by omega))) k_in7 rfl (by decide) rfl (Nat.le_of_ble_eq_true rfl) dX7_looking_82 ?_
        refine k_iload_n (pc := 85) C dX7_looking_85 rfl ?_
        refine k_iconst (pc := 86) (v := 1) C dX7_looking_86 (by decide) ?_
        refine k_iadd (pc := 87) C dX7_looking_87 ?_
        refine k_istore_4 (pc := 88) C dX7_looking_88 rfl ?_
        refine k_iload (pc := 90) C dX7_looking_90 rfl ?_
        refine k_if_eqF (pc := 92) C 101 dX7_looking_92 (by decide) (by decide) ?_
        refine k_aload_n (pc := 95) C dX7_looking_95 rfl ?_
        refine k_bipush (pc := 96) (v := 30) C dX7_looking_96 (by decide) ?_
        refine k_callv1 (pc := 98) C cv_X7_278 (ct_X7_body (k_nneg (body_ran hr) (by omega))) k_in7 rfl (by decide) rfl (Nat.le_of_ble_eq_true rfl) dX7_looking_98 ?_
        refine k_iload (pc := 101) C dX7_looking_101 rfl ?_
        refine k_if_eqT (pc := 103) C 112 dX7_looking_103 (by decide) (by decide) ?_
        refine k_aload_n (pc := 112) C dX7_looking_112 rfl ?_
        refine k_bipush (pc := 113) (v := 10) C dX7_looking_113 (by decide) ?_
        refine k_callv1 (pc := 115) C cv_X7_278 (ct_X7_body (k_nneg (body_ran (body_ran hr)) (by omega))) k_in7 rfl (by decide) rfl (Nat.le_of_ble_eq_true rfl) dX7_looking_115 ?_
        refine k_iload (pc := 118) C dX7_looking_118 rfl ?_
        refine k_iload_n (pc := 120) C dX7_looking_120 rfl ?_
        refine k_iadd (pc := 121) C dX7_looking_121 ?_
        refine k_istore_8 (pc := 122) C dX7_looking_122 rfl ?_
        refine k_iload (pc := 124) C dX7_looking_124 rfl ?_
        refine k_if_eqF (pc := 126) C 135 dX7_looking_126 (by decide) (by decide) ?_
        refine k_iload (pc := 129) C dX7_looking_129 rfl ?_
        refine k_iconst (pc := 131) (v := 3) C dX7_looking_131 (by decide) ?_
        refine k_imul (pc := 132) C dX7_looking_132 ?_
        refine k_istore_8 (pc := 133) C dX7_looking_133 rfl ?_
        refine k_iload (pc := 135) C dX7_looking_135 rfl ?_
        refine k_if_eqT (pc := 137) C 146 dX7_looking_137 (by decide) (by decide) ?_
        refine k_iload_n (pc := 146) C dX7_looking_146 rfl ?_
        refine k_bipush (pc := 147) (v := 6) C dX7_looking_147 (by decide) ?_
        refine k_icmp_neT (pc := 149) C 159 dX7_looking_149 (by decide) (by decide) ?_
        refine k_iload (pc := 159) C dX7_looking_159 rfl ?_
        exact k_iret (pc := 161) C rfl  (k_fIm (by unfold f_X7_looking; rw [if_neg k1, if_neg k2, if_pos k3]; try rfl)) dX7_looking_161
      · skip
        by_cases k4 : (mi (8, 6, 0) cz.toNatClampNeg) = 4
        · skip
          refine k_cast (L' := [vR (7, 0, 0), vI cz, vI x, vI 4, vU, vU, vU, vU, vU]) (by rw [k4]) rfl rfl ?_
          refine k_iload_n (pc := 7) C dX7_looking_7 rfl ?_
          refine k_istore_4 (pc := 8) C dX7_looking_8 rfl ?_
          refine k_iload_n (pc := 10) C dX7_looking_10 rfl ?_
          refine k_iconst (pc := 11) (v := 3) C dX7_looking_11 (by decide) ?_
          refine k_icmp_eqF (pc := 12) C 21 dX7_looking_12 (by decide) (by decide) ?_
          refine k_iload_n (pc := 15) C dX7_looking_15 rfl ?_
          refine k_bipush (pc := 16) (v := 6) C dX7_looking_16 (by decide) ?_
          refine k_icmp_neT (pc := 18) C 25 dX7_looking_18 (by decide) (by decide) ?_
          refine k_iconst (pc := 25) (v := 0) C dX7_looking_25 (by decide) ?_
          refine k_istore_5 (pc := 26) C dX7_looking_26 rfl ?_
          refine k_iload (pc := 28) C dX7_looking_28 rfl ?_
          refine k_if_neF (pc := 30) C 38 dX7_looking_30 (by decide) (by decide) ?_
          refine k_iload_n (pc := 33) C dX7_looking_33 rfl ?_
          refine k_iconst (pc := 34) (v := 2) C dX7_looking_34 (by decide) ?_
          refine k_icmp_neT (pc := 35) C 42 dX7_looking_35 (by decide) (by decide) ?_
          refine k_iconst (pc := 42) (v := 0) C dX7_looking_42 (by decide) ?_
          refine k_istore_6 (pc := 43) C dX7_looking_43 rfl ?_
          refine k_iload_n (pc := 45) C dX7_looking_45 rfl ?_
          refine k_iconst (pc := 46) (v := 4) C dX7_looking_46 (by decide) ?_
          refine k_icmp_eqT (pc := 47) C 55 dX7_looking_47 (by decide) (by decide) ?_
          refine k_iconst (pc := 55) (v := 1) C dX7_looking_55 (by decide) ?_
          refine k_goto (pc := 56) C 60 dX7_looking_56 (by decide) ?_
          refine k_istore_7 (pc := 60) C dX7_looking_60 rfl ?_
          refine k_iload_n (pc := 62) C dX7_looking_62 rfl ?_
          refine k_bipush (pc := 63) (v := 6) C dX7_looking_63 (by decide) ?_
          refine k_icmp_neT (pc := 65) C 74 dX7_looking_65 (by decide) (by decide) ?_
          refine k_iload (pc := 74) C dX7_looking_74 rfl ?_
          refine k_if_eqT (pc := 76) C 90 dX7_looking_76 (by decide) (by decide) ?_
          refine k_iload (pc := 90) C dX7_looking_90 rfl ?_
          refine k_if_eqT (pc := 92) C 101 dX7_looking_92 (by decide) (by decide) ?_
          refine k_iload (pc := 101) C dX7_looking_101 rfl ?_
          refine k_if_eqF (pc := 103) C 112 dX7_looking_103 (by decide) (by decide) ?_
          refine k_aload_n (pc := 106) C dX7_looking_106 rfl ?_
          refine k_bipush (pc := 107) (v := 51) C dX7_looking_107 (by decide) ?_
          refine k_callv1 (pc := 109) C cv_X7_278 (ct_X7_body (k_nneg hr (by omega))) k_in7 rfl (by decide) rfl (Nat.le_of_ble_eq_true rfl) dX7_looking_109 ?_
          refine k_aload_n (pc := 112) C dX7_looking_112 rfl ?_
          refine k_bipush (pc := 113) (v := 10) C dX7_looking_113 (by decide) ?_
          refine k_callv1 (pc := 115) C cv_X7_278 (ct_X7_body (k_nneg (body_ran hr) (by omega))) k_in7 rfl (by decide) rfl (Nat.le_of_ble_eq_true rfl) dX7_looking_115 ?_
          refine k_iload (pc := 118) C dX7_looking_118 rfl ?_
          refine k_iload_n (pc := 120) C dX7_looking_120 rfl ?_
          refine k_iadd (pc := 121) C dX7_looking_121 ?_
          refine k_istore_8 (pc := 122) C dX7_looking_122 rfl ?_
          refine k_iload (pc := 124) C dX7_looking_124 rfl ?_
          refine k_if_eqT (pc := 126) C 135 dX7_looking_126 (by decide) (by decide) ?_
          refine k_iload (pc := 135) C dX7_looking_135 rfl ?_
          refine k_if_eqF (pc := 137) C 146 dX7_looking_137 (by decide) (by decide) ?_
          refine k_iload (pc := 140) C dX7_looking_140 rfl ?_
          refine k_iload_n (pc := 142) C dX7_looking_142 rfl ?_
          refine k_isub (pc := 143) C dX7_looking_143 ?_
          refine k_istore_8 (pc := 144) C dX7_looking_144 rfl ?_
          refine k_iload_n (pc := 146) C dX7_looking_146 rfl ?_
          refine k_bipush (pc := 147) (v := 6) C dX7_looking_147 (by decide) ?_
          refine k_icmp_neT (pc := 149) C 159 dX7_looking_149 (by decide) (by decide) ?_
          refine k_iload (pc := 159) C dX7_looking_159 rfl ?_
          exact k_iret (pc := 161) C rfl  (k_fIm (by unfold f_X7_looking; rw [if_neg k1, if_neg k2, if_neg k3, if_pos k4]; try rfl)) dX7_looking_161
        · skip
          by_cases k5 : (mi (8, 6, 0) cz.toNatClampNeg) = 5
          · skip
            refine k_cast (L' := [vR (7, 0, 0), vI cz, vI x, vI 5, vU, vU, vU, vU, vU]) (by rw [k5]) rfl rfl ?_
            refine k_iload_n (pc := 7) C dX7_looking_7 rfl ?_
            refine k_istore_4 (pc := 8) C dX7_looking_8 rfl ?_
            refine k_iload_n (pc := 10) C dX7_looking_10 rfl ?_
            refine k_iconst (pc := 11) (v := 3) C dX7_looking_11 (by decide) ?_
            refine k_icmp_eqF (pc := 12) C 21 dX7_looking_12 (by decide) (by decide) ?_
            refine k_iload_n (pc := 15) C dX7_looking_15 rfl ?_
            refine k_bipush (pc := 16) (v := 6) C dX7_looking_16 (by decide) ?_
            refine k_icmp_neT (pc := 18) C 25 dX7_looking_18 (by decide) (by decide) ?_
            refine k_iconst (pc := 25) (v := 0) C dX7_looking_25 (by decide) ?_
            refine k_istore_5 (pc := 26) C dX7_looking_26 rfl ?_
            refine k_iload (pc := 28) C dX7_looking_28 rfl ?_
            refine k_if_neF (pc := 30) C 38 dX7_looking_30 (by decide) (by decide) ?_
            refine k_iload_n (pc := 33) C dX7_looking_33 rfl ?_
            refine k_iconst (pc := 34) (v := 2) C dX7_looking_34 (by decide) ?_
            refine k_icmp_neT (pc := 35) C 42 dX7_looking_35 (by decide) (by decide) ?_
            refine k_iconst (pc := 42) (v := 0) C dX7_looking_42 (by decide) ?_
            refine k_istore_6 (pc := 43) C dX7_looking_43 rfl ?_
            refine k_iload_n (pc := 45) C dX7_looking_45 rfl ?_
            refine k_iconst (pc := 46) (v := 4) C dX7_looking_46 (by decide) ?_
            refine k_icmp_eqF (pc := 47) C 55 dX7_looking_47 (by decide) (by decide) ?_
            refine k_iload_n (pc := 50) C dX7_looking_50 rfl ?_
            refine k_iconst (pc := 51) (v := 5) C dX7_looking_51 (by decide) ?_
            refine k_icmp_neF (pc := 52) C 59 dX7_looking_52 (by decide) (by decide) ?_
            refine k_iconst (pc := 55) (v := 1) C dX7_looking_55 (by decide) ?_
            refine k_goto (pc := 56) C 60 dX7_looking_56 (by decide) ?_
            refine k_istore_7 (pc := 60) C dX7_looking_60 rfl ?_
            refine k_iload_n (pc := 62) C dX7_looking_62 rfl ?_
            refine k_bipush (pc := 63) (v := 6) C dX7_looking_63 (by decide) ?_
            refine k_icmp_neT (pc := 65) C 74 dX7_looking_65 (by decide) (by decide) ?_
            refine k_iload (pc := 74) C dX7_looking_74 rfl ?_
            refine k_if_eqT (pc := 76) C 90 dX7_looking_76 (by decide) (by decide) ?_
            refine k_iload (pc := 90) C dX7_looking_90 rfl ?_
            refine k_if_eqT (pc := 92) C 101 dX7_looking_92 (by decide) (by decide) ?_
            refine k_iload (pc := 101) C dX7_looking_101 rfl ?_
            refine k_if_eqF (pc := 103) C 112 dX7_looking_103 (by decide) (by decide) ?_
            refine k_aload_n (pc := 106) C dX7_looking_106 rfl ?_
            refine k_bipush (pc := 107) (v := 51) C dX7_looking_107 (by decide) ?_
            refine k_callv1 (pc := 109) C cv_X7_278 (ct_X7_body (k_nneg hr (by omega))) k_in7 rfl (by decide) rfl (Nat.le_of_ble_eq_true rfl) dX7_looking_109 ?_
            refine k_aload_n (pc := 112) C dX7_looking_112 rfl ?_
            refine k_bipush (pc := 113) (v := 10) C dX7_looking_113 (by decide) ?_
            refine k_callv1 (pc := 115) C cv_X7_278 (ct_X7_body (k_nneg (body_ran hr) (by omega))) k_in7 rfl (by decide) rfl (Nat.le_of_ble_eq_true rfl) dX7_looking_115 ?_
            refine k_iload (pc := 118) C dX7_looking_118 rfl ?_
            refine k_iload_n (pc := 120) C dX7_looking_120 rfl ?_
            refine k_iadd (pc := 121) C dX7_looking_121 ?_
            refine k_istore_8 (pc := 122) C dX7_looking_122 rfl ?_
            refine k_iload (pc := 124) C dX7_looking_124 rfl ?_
            refine k_if_eqT (pc := 126) C 135 dX7_looking_126 (by decide) (by decide) ?_
            refine k_iload (pc := 135) C dX7_looking_135 rfl ?_
            refine k_if_eqF (pc := 137) C 146 dX7_looking_137 (by decide) (by decide) ?_
            refine k_iload (pc := 140) C dX7_looking_140 rfl ?_
            refine k_iload_n (pc := 142) C dX7_looking_142 rfl ?_
            refine k_isub (pc := 143) C dX7_looking_143 ?_
            refine k_istore_8 (pc := 144) C dX7_looking_144 rfl ?_
            refine k_iload_n (pc := 146) C dX7_looking_146 rfl ?_
            refine k_bipush (pc := 147) (v := 6) C dX7_looking_147 (by decide) ?_
            refine k_icmp_neT (pc := 149) C 159 dX7_looking_149 (by decide) (by decide) ?_
            refine k_iload (pc := 159) C dX7_looking_159 rfl ?_
            exact k_iret (pc := 161) C rfl  (k_fIm (by unfold f_X7_looking; rw [if_neg k1, if_neg k2, if_neg k3, if_neg k4, if_pos k5]; try rfl)) dX7_looking_161
          · skip
            by_cases k6 : (mi (8, 6, 0) cz.toNatClampNeg) = 6
            · skip
              refine k_cast (L' := [vR (7, 0, 0), vI cz, vI x, vI 6, vU, vU, vU, vU, vU]) (by rw [k6]) rfl rfl ?_
              refine k_iload_n (pc := 7) C dX7_looking_7 rfl ?_
              refine k_istore_4 (pc := 8) C dX7_looking_8 rfl ?_
              refine k_iload_n (pc := 10) C dX7_looking_10 rfl ?_
              refine k_iconst (pc := 11) (v := 3) C dX7_looking_11 (by decide) ?_
              refine k_icmp_eqF (pc := 12) C 21 dX7_looking_12 (by decide) (by decide) ?_
              refine k_iload_n (pc := 15) C dX7_looking_15 rfl ?_
              refine k_bipush (pc := 16) (v := 6) C dX7_looking_16 (by decide) ?_
              refine k_icmp_neF (pc := 18) C 25 dX7_looking_18 (by decide) (by decide) ?_
              refine k_iconst (pc := 21) (v := 1) C dX7_looking_21 (by decide) ?_
              refine k_goto (pc := 22) C 26 dX7_looking_22 (by decide) ?_
              refine k_istore_5 (pc := 26) C dX7_looking_26 rfl ?_
              refine k_iload (pc := 28) C dX7_looking_28 rfl ?_
              refine k_if_neT (pc := 30) C 38 dX7_looking_30 (by decide) (by decide) ?_
              refine k_iconst (pc := 38) (v := 1) C dX7_looking_38 (by decide) ?_
              refine k_goto (pc := 39) C 43 dX7_looking_39 (by decide) ?_
              refine k_istore_6 (pc := 43) C dX7_looking_43 rfl ?_
              refine k_iload_n (pc := 45) C dX7_looking_45 rfl ?_
              refine k_iconst (pc := 46) (v := 4) C dX7_looking_46 (by decide) ?_
              refine k_icmp_eqF (pc := 47) C 55 dX7_looking_47 (by decide) (by decide) ?_
              refine k_iload_n (pc := 50) C dX7_looking_50 rfl ?_
              refine k_iconst (pc := 51) (v := 5) C dX7_looking_51 (by decide) ?_
              refine k_icmp_neT (pc := 52) C 59 dX7_looking_52 (by decide) (by decide) ?_
              refine k_iconst (pc := 59) (v := 0) C dX7_looking_59 (by decide) ?_
              refine k_istore_7 (pc := 60) C dX7_looking_60 rfl ?_
              refine k_iload_n (pc := 62) C dX7_looking_62 rfl ?_
              refine k_bipush (pc := 63) (v := 6) C dX7_looking_63 (by decide) ?_
              refine k_icmp_neF (pc := 65) C 74 dX7_looking_65 (by decide) (by decide) ?_
              refine k_aload_n (pc := 68) C dX7_looking_68 rfl ?_
              refine k_bipush (pc := 69) (v := 70) C dX7_looking_69 (by decide) ?_
              refine k_callv1 (pc := 71) C cv_X7_278 (ct_X7_body (k_nneg hr (by omega))) k_in7 rfl (by decide) rfl (Nat.le_of_ble_eq_true rfl) dX7_looking_71 ?_
              refine k_iload (pc := 74) C dX7_looking_74 rfl ?_
              refine k_if_eqF (pc := 76) C 90 dX7_looking_76 (by decide) (by decide) ?_
              refine k_aload_n (pc := 79) C dX7_looking_79 rfl ?_
              refine k_bipush (pc := 80) (v := 40) C dX7_looking_80 (by decide) ?_
              refine k_callv1 (pc := 82) C cv_X7_278 (ct_X7_body (k_nneg (body_ran hr) (by omega))) k_in7 rfl (by decide) rfl (Nat.le_of_ble_eq_true rfl) dX7_looking_82 ?_
              refine k_iload_n (pc := 85) C dX7_looking_85 rfl ?_
              refine k_iconst (pc := 86) (v := 1) C dX7_looking_86 (by decide) ?_
              refine k_iadd (pc := 87) C dX7_looking_87 ?_
              refine k_istore_4 (pc := 88) C dX7_looking_88 rfl ?_
              refine k_iload (pc := 90) C dX7_looking_90 rfl ?_
              refine k_if_eqF (pc := 92) C 101 dX7_looking_92 (by decide) (by decide) ?_
              refine k_aload_n (pc := 95) C dX7_looking_95 rfl ?_
              refine k_bipush (pc := 96) (v := 30) C dX7_looking_96 (by decide) ?_
              refine k_callv1 (pc := 98) C cv_X7_278 (ct_X7_body (k_nneg (body_ran (body_ran hr)) (by omega))) k_in7 rfl (by decide) rfl (Nat.le_of_ble_eq_true rfl) dX7_looking_98 ?_
              refine k_iload (pc := 101) C dX7_looking_101 rfl ?_
              refine k_if_eqT (pc := 103) C 112 dX7_looking_103 (by decide) (by decide) ?_
              refine k_aload_n (pc := 112) C dX7_looking_112 rfl ?_
              refine k_bipush (pc := 113) (v := 10) C dX7_looking_113 (by decide) ?_
              refine k_callv1 (pc := 115) C cv_X7_278 (ct_X7_body (k_nneg (body_ran (body_ran (body_ran hr))) (by omega))) k_in7 rfl (by decide) rfl (Nat.le_of_ble_eq_true rfl) dX7_looking_115 ?_
              refine k_iload (pc := 118) C dX7_looking_118 rfl ?_
              refine k_iload_n (pc := 120) C dX7_looking_120 rfl ?_
              refine k_iadd (pc := 121) C dX7_looking_121 ?_
              refine k_istore_8 (pc := 122) C dX7_looking_122 rfl ?_
              refine k_iload (pc := 124) C dX7_looking_124 rfl ?_
              refine k_if_eqF (pc := 126) C 135 dX7_looking_126 (by decide) (by decide) ?_
              refine k_iload (pc := 129) C dX7_looking_129 rfl ?_
              refine k_iconst (pc := 131) (v := 3) C dX7_looking_131 (by decide) ?_
              refine k_imul (pc := 132) C dX7_looking_132 ?_
              refine k_istore_8 (pc := 133) C dX7_looking_133 rfl ?_
              refine k_iload (pc := 135) C dX7_looking_135 rfl ?_
              refine k_if_eqT (pc := 137) C 146 dX7_looking_137 (by decide) (by decide) ?_
              refine k_iload_n (pc := 146) C dX7_looking_146 rfl ?_
              refine k_bipush (pc := 147) (v := 6) C dX7_looking_147 (by decide) ?_
              refine k_icmp_neF (pc := 149) C 159 dX7_looking_149 (by decide) (by decide) ?_
              refine k_iload (pc := 152) C dX7_looking_152 rfl ?_
              refine k_iconst (pc := 154) (v := 2) C dX7_looking_154 (by decide) ?_
              refine k_imul (pc := 155) C dX7_looking_155 ?_
              refine k_goto (pc := 156) C 161 dX7_looking_156 (by decide) ?_
              exact k_iret (pc := 161) C rfl  (k_fIm (by unfold f_X7_looking; rw [if_neg k1, if_neg k2, if_neg k3, if_neg k4, if_neg k5, if_pos k6]; try rfl)) dX7_looking_161
            · skip
              refine k_iload_n (pc := 7) C dX7_looking_7 rfl ?_
              refine k_istore_4 (pc := 8) C dX7_looking_8 rfl ?_
              refine k_iload_n (pc := 10) C dX7_looking_10 rfl ?_
              refine k_iconst (pc := 11) (v := 3) C dX7_looking_11 (by decide) ?_
              refine k_icmp_eqF (pc := 12) C 21 dX7_looking_12 (by decide) k3 ?_
              refine k_iload_n (pc := 15) C dX7_looking_15 rfl ?_
              refine k_bipush (pc := 16) (v := 6) C dX7_looking_16 (by decide) ?_
              refine k_icmp_neT (pc := 18) C 25 dX7_looking_18 (by decide) k6 ?_
              refine k_iconst (pc := 25) (v := 0) C dX7_looking_25 (by decide) ?_
              refine k_istore_5 (pc := 26) C dX7_looking_26 rfl ?_
              refine k_iload (pc := 28) C dX7_looking_28 rfl ?_
              refine k_if_neF (pc := 30) C 38 dX7_looking_30 (by decide) (by decide) ?_
              refine k_iload_n (pc := 33) C dX7_looking_33 rfl ?_
              refine k_iconst (pc := 34) (v := 2) C dX7_looking_34 (by decide) ?_
              refine k_icmp_neT (pc := 35) C 42 dX7_looking_35 (by decide) k2 ?_
              refine k_iconst (pc := 42) (v := 0) C dX7_looking_42 (by decide) ?_
              refine k_istore_6 (pc := 43) C dX7_looking_43 rfl ?_
              refine k_iload_n (pc := 45) C dX7_looking_45 rfl ?_
              refine k_iconst (pc := 46) (v := 4) C dX7_looking_46 (by decide) ?_
              refine k_icmp_eqF (pc := 47) C 55 dX7_looking_47 (by decide) k4 ?_
              refine k_iload_n (pc := 50) C dX7_looking_50 rfl ?_
              refine k_iconst (pc := 51) (v := 5) C dX7_looking_51 (by decide) ?_
              refine k_icmp_neT (pc := 52) C 59 dX7_looking_52 (by decide) k5 ?_
              refine k_iconst (pc := 59) (v := 0) C dX7_looking_59 (by decide) ?_
              refine k_istore_7 (pc := 60) C dX7_looking_60 rfl ?_
              refine k_iload_n (pc := 62) C dX7_looking_62 rfl ?_
              refine k_bipush (pc := 63) (v := 6) C dX7_looking_63 (by decide) ?_
              refine k_icmp_neT (pc := 65) C 74 dX7_looking_65 (by decide) k6 ?_
              refine k_iload (pc := 74) C dX7_looking_74 rfl ?_
              refine k_if_eqT (pc := 76) C 90 dX7_looking_76 (by decide) (by decide) ?_
              refine k_iload (pc := 90) C dX7_looking_90 rfl ?_
              refine k_if_eqT (pc := 92) C 101 dX7_looking_92 (by decide) (by decide) ?_
              refine k_iload (pc := 101) C dX7_looking_101 rfl ?_
              refine k_if_eqT (pc := 103) C 112 dX7_looking_103 (by decide) (by decide) ?_
              refine k_aload_n (pc := 112) C dX7_looking_112 rfl ?_
              refine k_bipush (pc := 113) (v := 10) C dX7_looking_113 (by decide) ?_
              refine k_callv1 (pc := 115) C cv_X7_278 (ct_X7_body (k_nneg hr (by omega))) k_in7 rfl (by decide) rfl (Nat.le_of_ble_eq_true rfl) dX7_looking_115 ?_
              refine k_iload (pc := 118) C dX7_looking_118 rfl ?_
              refine k_iload_n (pc := 120) C dX7_looking_120 rfl ?_
              refine k_iadd (pc := 121) C dX7_looking_121 ?_
              refine k_istore_8 (pc := 122) C dX7_looking_122 rfl ?_
              refine k_iload (pc := 124) C dX7_looking_124 rfl ?_
              refine k_if_eqT (pc := 126) C 135 dX7_looking_126 (by decide) (by decide) ?_
              refine k_iload (pc := 135) C dX7_looking_135 rfl ?_
              refine k_if_eqT (pc := 137) C 146 dX7_looking_137 (by decide) (by decide) ?_
              refine k_iload_n (pc := 146) C dX7_looking_146 rfl ?_
              refine k_bipush (pc := 147) (v := 6) C dX7_looking_147 (by decide) ?_
              refine k_icmp_neT (pc := 149) C 159 dX7_looking_149 (by decide) k6 ?_
              refine k_iload (pc := 159) C dX7_looking_159 rfl ?_
              exact k_iret (pc := 161) C rfl  (k_fIm (by unfold f_X7_looking; rw [if_neg k1, if_neg k2, if_neg k3, if_neg k4, if_neg k5, if_neg k6]; try rfl)) dX7_looking_161
theorem looking_ran {mi : MemI} {cz x : Int32} {r : Nat} (h : mi (7, 0, 0) 51 = nI r) : ∃ q, (f_X7_looking mi cz x).2 (7, 0, 0) 51 = nI (r + q) ∧ q ≤ 4 := by
  unfold f_X7_looking
  repeat' split
  all_goals first
    | exact ⟨1, body_ran h, by decide⟩
    | exact ⟨2, body_ran (body_ran h), by decide⟩
    | exact ⟨3, body_ran (body_ran (body_ran h)), by decide⟩
    | exact ⟨4, body_ran (body_ran (body_ran (body_ran h))), by decide⟩
theorem looking_fr {mi : MemI} {cz x : Int32} {k : Ky} {j : Nat} (h1 : k ≠ (8, 50, 0)) (h2 : ¬ (k = (7, 0, 0) ∧ j = 51)) : (f_X7_looking mi cz x).2 k j = mi k j := by
  unfold f_X7_looking
  repeat' split
  all_goals simp only [body_fr h1 h2]
def f_X7_giving (mi : MemI) (cz : Int32) (x : Int32) : Int32 × MemI :=
  if (mi (8, 6, 0) cz.toNatClampNeg) = 1 then ((((f_X7_looking (f_X7_body (f_X7_body mi 20) 11) cz x).1) * 2) + (mi (8, 7, 0) cz.toNatClampNeg), (f_X7_looking (f_X7_body (f_X7_body mi 20) 11) cz x).2)
  else if (mi (8, 6, 0) cz.toNatClampNeg) = 6 then (((f_X7_looking (f_X7_body (f_X7_body mi 71) 11) cz (x - (mi (8, 7, 0) cz.toNatClampNeg))).1) * 2, (f_X7_looking (f_X7_body (f_X7_body mi 71) 11) cz (x - (mi (8, 7, 0) cz.toNatClampNeg))).2)
    else (((f_X7_looking (f_X7_body mi 11) cz x).1) * 2, (f_X7_looking (f_X7_body mi 11) cz x).2)
set_option maxRecDepth 100000 in
set_option maxHeartbeats 4000000 in
theorem ct_X7_giving {r : Nat} {mi : MemI} {ml : MemL} {cz : Int32} {x : Int32} (hc : vp_in cz 6) (hr : mi (7, 0, 0) 51 = nI r) (hr9 : r < 400) : k_Ct k_KS k_R0 Mt_X7_giving 2 [vR (7, 0, 0), vI cz, vI x] mi ml (k_rt (some (vI (f_X7_giving mi cz x).1)) (f_X7_giving mi cz x).2 ml) := by
  refine k_ofV (L0 := [vR (7, 0, 0), vI cz, vI x, vU, vU]) (by decide +kernel) (Nat.le_of_ble_eq_true rfl) rfl rfl ?_
  intro p l e s m args below meth c D cy ad bs C
  refine k_iload_n (pc := 0) C dX7_giving_0 rfl ?_
  refine k_istore_3 (pc := 1) C dX7_giving_1 rfl ?_
  by_cases k1 : (mi (8, 6, 0) cz.toNatClampNeg) = 1
  · skip
    refine k_aload_n (pc := 2) C dX7_giving_2 rfl ?_
    refine k_getR (pc := 3) (r := some (8, 6, 0)) C fl_X7_20 k_in7 rfl rfl rfl dX7_giving_3 ?_
    refine k_iload_n (pc := 6) C dX7_giving_6 rfl ?_
    refine k_ialdX (pc := 7) (j := cz.toNatClampNeg) C rfl (by decide +kernel) rfl hc dX7_giving_7 ?_
    refine k_bipush (pc := 8) (v := 6) C dX7_giving_8 (by decide) ?_
    refine k_icmp_neT (pc := 10) C 28 dX7_giving_10 (by decide) (by rw [k1]; decide) ?_
    refine k_aload_n (pc := 28) C dX7_giving_28 rfl ?_
    refine k_getR (pc := 29) (r := some (8, 6, 0)) C fl_X7_20 k_in7 rfl rfl rfl dX7_giving_29 ?_
    refine k_iload_n (pc := 32) C dX7_giving_32 rfl ?_
    refine k_ialdX (pc := 33) (j := cz.toNatClampNeg) C rfl (by decide +kernel) rfl hc dX7_giving_33 ?_
    refine k_iconst (pc := 34) (v := 1) C dX7_giving_34 (by decide) ?_
    refine k_icmp_neF (pc := 35) C 44 dX7_giving_35 (by decide) k1 ?_
    refine k_aload_n (pc := 38) C dX7_giving_38 rfl ?_
    refine k_bipush (pc := 39) (v := 20) C dX7_giving_39 (by decide) ?_
    refine k_callv1 (pc := 41) C cv_X7_278 (ct_X7_body (k_nneg hr (by omega))) k_in7 rfl (by decide) rfl (Nat.le_of_ble_eq_true rfl) dX7_giving_41 ?_
    refine k_aload_n (pc := 44) C dX7_giving_44 rfl ?_
    refine k_bipush (pc := 45) (v := 11) C dX7_giving_45 (by decide) ?_
    refine k_callv1 (pc := 47) C cv_X7_278 (ct_X7_body (k_nneg (body_ran hr) (by omega))) k_in7 rfl (by decide) rfl (Nat.le_of_ble_eq_true rfl) dX7_giving_47 ?_
    refine k_aload_n (pc := 50) C dX7_giving_50 rfl ?_
    refine k_iload_n (pc := 51) C dX7_giving_51 rfl ?_
    refine k_iload_n (pc := 52) C dX7_giving_52 rfl ?_
    refine k_call2 (pc := 53) C cv_X7_281 (ct_X7_looking (by assumption) (body_ran (body_ran hr)) (by omega)) k_in7 rfl (by decide) rfl (Nat.le_of_ble_eq_true rfl) dX7_giving_53 ?_
    refine k_iconst (pc := 56) (v := 2) C dX7_giving_56 (by decide) ?_
    refine k_imul (pc := 57) C dX7_giving_57 ?_
    refine k_istore_4 (pc := 58) C dX7_giving_58 rfl ?_
    refine k_aload_n (pc := 60) C dX7_giving_60 rfl ?_
    refine k_getR (pc := 61) (r := some (8, 6, 0)) C fl_X7_20 k_in7 rfl rfl rfl dX7_giving_61 ?_
    refine k_iload_n (pc := 64) C dX7_giving_64 rfl ?_
    refine k_ialdX (pc := 65) (j := cz.toNatClampNeg) C rfl (by decide +kernel) rfl hc dX7_giving_65 ?_
    refine k_sx (x := mi (8, 6, 0) cz.toNatClampNeg) (Eq.trans (looking_fr (by decide) (by simp)) (Eq.trans (body_fr (by decide) (by simp)) (body_fr (by decide) (by simp)))) ?_
    refine k_iconst (pc := 66) (v := 1) C dX7_giving_66 (by decide) ?_
    refine k_icmp_neF (pc := 67) C 82 dX7_giving_67 (by decide) k1 ?_
    refine k_iload (pc := 70) C dX7_giving_70 rfl ?_
    refine k_aload_n (pc := 72) C dX7_giving_72 rfl ?_
    refine k_getR (pc := 73) (r := some (8, 7, 0)) C fl_X7_23 k_in7 rfl rfl rfl dX7_giving_73 ?_
    refine k_iload_n (pc := 76) C dX7_giving_76 rfl ?_
    refine k_ialdX (pc := 77) (j := cz.toNatClampNeg) C rfl (by decide +kernel) rfl hc dX7_giving_77 ?_
    refine k_sx (x := mi (8, 7, 0) cz.toNatClampNeg) (Eq.trans (looking_fr (by decide) (by simp)) (Eq.trans (body_fr (by decide) (by simp)) (body_fr (by decide) (by simp)))) ?_
    refine k_iadd (pc := 78) C dX7_giving_78 ?_
    refine k_goto (pc := 79) C 84 dX7_giving_79 (by decide) ?_
    exact k_iret (pc := 84) C rfl  (k_fIm (by unfold f_X7_giving; rw [if_pos k1]; try rfl)) dX7_giving_84
  · skip
    by_cases k6 : (mi (8, 6, 0) cz.toNatClampNeg) = 6
    · skip
      refine k_aload_n (pc := 2) C dX7_giving_2 rfl ?_
      refine k_getR (pc := 3) (r := some (8, 6, 0)) C fl_X7_20 k_in7 rfl rfl rfl dX7_giving_3 ?_
      refine k_iload_n (pc := 6) C dX7_giving_6 rfl ?_
      refine k_ialdX (pc := 7) (j := cz.toNatClampNeg) C rfl (by decide +kernel) rfl hc dX7_giving_7 ?_
      refine k_bipush (pc := 8) (v := 6) C dX7_giving_8 (by decide) ?_
      refine k_icmp_neF (pc := 10) C 28 dX7_giving_10 (by decide) k6 ?_
      refine k_aload_n (pc := 13) C dX7_giving_13 rfl ?_
      refine k_bipush (pc := 14) (v := 71) C dX7_giving_14 (by decide) ?_
      refine k_callv1 (pc := 16) C cv_X7_278 (ct_X7_body (k_nneg hr (by omega))) k_in7 rfl (by decide) rfl (Nat.le_of_ble_eq_true rfl) dX7_giving_16 ?_
      refine k_iload_n (pc := 19) C dX7_giving_19 rfl ?_
      refine k_aload_n (pc := 20) C dX7_giving_20 rfl ?_
      refine k_getR (pc := 21) (r := some (8, 7, 0)) C fl_X7_23 k_in7 rfl rfl rfl dX7_giving_21 ?_
      refine k_iload_n (pc := 24) C dX7_giving_24 rfl ?_
      refine k_ialdX (pc := 25) (j := cz.toNatClampNeg) C rfl (by decide +kernel) rfl hc dX7_giving_25 ?_
      refine k_sx (x := mi (8, 7, 0) cz.toNatClampNeg) (body_fr (by decide) (by simp)) ?_
      refine k_isub (pc := 26) C dX7_giving_26 ?_
      refine k_istore_3 (pc := 27) C dX7_giving_27 rfl ?_
      refine k_aload_n (pc := 28) C dX7_giving_28 rfl ?_
      refine k_getR (pc := 29) (r := some (8, 6, 0)) C fl_X7_20 k_in7 rfl rfl rfl dX7_giving_29 ?_
      refine k_iload_n (pc := 32) C dX7_giving_32 rfl ?_
      refine k_ialdX (pc := 33) (j := cz.toNatClampNeg) C rfl (by decide +kernel) rfl hc dX7_giving_33 ?_
      refine k_sx (x := mi (8, 6, 0) cz.toNatClampNeg) (body_fr (by decide) (by simp)) ?_
      refine k_iconst (pc := 34) (v := 1) C dX7_giving_34 (by decide) ?_
      refine k_icmp_neT (pc := 35) C 44 dX7_giving_35 (by decide) k1 ?_
      refine k_aload_n (pc := 44) C dX7_giving_44 rfl ?_
      refine k_bipush (pc := 45) (v := 11) C dX7_giving_45 (by decide) ?_
      refine k_callv1 (pc := 47) C cv_X7_278 (ct_X7_body (k_nneg (body_ran hr) (by omega))) k_in7 rfl (by decide) rfl (Nat.le_of_ble_eq_true rfl) dX7_giving_47 ?_
      refine k_aload_n (pc := 50) C dX7_giving_50 rfl ?_
      refine k_iload_n (pc := 51) C dX7_giving_51 rfl ?_
      refine k_iload_n (pc := 52) C dX7_giving_52 rfl ?_
      refine k_call2 (pc := 53) C cv_X7_281 (ct_X7_looking (by assumption) (body_ran (body_ran hr)) (by omega)) k_in7 rfl (by decide) rfl (Nat.le_of_ble_eq_true rfl) dX7_giving_53 ?_
      refine k_iconst (pc := 56) (v := 2) C dX7_giving_56 (by decide) ?_
      refine k_imul (pc := 57) C dX7_giving_57 ?_
      refine k_istore_4 (pc := 58) C dX7_giving_58 rfl ?_
      refine k_aload_n (pc := 60) C dX7_giving_60 rfl ?_
      refine k_getR (pc := 61) (r := some (8, 6, 0)) C fl_X7_20 k_in7 rfl rfl rfl dX7_giving_61 ?_
      refine k_iload_n (pc := 64) C dX7_giving_64 rfl ?_
      refine k_ialdX (pc := 65) (j := cz.toNatClampNeg) C rfl (by decide +kernel) rfl hc dX7_giving_65 ?_
      refine k_sx (x := mi (8, 6, 0) cz.toNatClampNeg) (Eq.trans (looking_fr (by decide) (by simp)) (Eq.trans (body_fr (by decide) (by simp)) (body_fr (by decide) (by simp)))) ?_
      refine k_iconst (pc := 66) (v := 1) C dX7_giving_66 (by decide) ?_
      refine k_icmp_neT (pc := 67) C 82 dX7_giving_67 (by decide) k1 ?_
      refine k_iload (pc := 82) C dX7_giving_82 rfl ?_
      exact k_iret (pc := 84) C rfl  (k_fIm (by unfold f_X7_giving; rw [if_neg k1, if_pos k6]; try rfl)) dX7_giving_84
    · skip
      refine k_aload_n (pc := 2) C dX7_giving_2 rfl ?_
      refine k_getR (pc := 3) (r := some (8, 6, 0)) C fl_X7_20 k_in7 rfl rfl rfl dX7_giving_3 ?_
      refine k_iload_n (pc := 6) C dX7_giving_6 rfl ?_
      refine k_ialdX (pc := 7) (j := cz.toNatClampNeg) C rfl (by decide +kernel) rfl hc dX7_giving_7 ?_
      refine k_bipush (pc := 8) (v := 6) C dX7_giving_8 (by decide) ?_
      refine k_icmp_neT (pc := 10) C 28 dX7_giving_10 (by decide) k6 ?_
      refine k_aload_n (pc := 28) C dX7_giving_28 rfl ?_
      refine k_getR (pc := 29) (r := some (8, 6, 0)) C fl_X7_20 k_in7 rfl rfl rfl dX7_giving_29 ?_
      refine k_iload_n (pc := 32) C dX7_giving_32 rfl ?_
      refine k_ialdX (pc := 33) (j := cz.toNatClampNeg) C rfl (by decide +kernel) rfl hc dX7_giving_33 ?_
      refine k_iconst (pc := 34) (v := 1) C dX7_giving_34 (by decide) ?_
      refine k_icmp_neT (pc := 35) C 44 dX7_giving_35 (by decide) k1 ?_
      refine k_aload_n (pc := 44) C dX7_giving_44 rfl ?_
      refine k_bipush (pc := 45) (v := 11) C dX7_giving_45 (by decide) ?_
      refine k_callv1 (pc := 47) C cv_X7_278 (ct_X7_body (k_nneg hr (by omega))) k_in7 rfl (by decide) rfl (Nat.le_of_ble_eq_true rfl) dX7_giving_47 ?_
      refine k_aload_n (pc := 50) C dX7_giving_50 rfl ?_
      refine k_iload_n (pc := 51) C dX7_giving_51 rfl ?_
      refine k_iload_n (pc := 52) C dX7_giving_52 rfl ?_
      refine k_call2 (pc := 53) C cv_X7_281 (ct_X7_looking (by assumption) (body_ran hr) (by omega)) k_in7 rfl (by decide) rfl (Nat.le_of_ble_eq_true rfl) dX7_giving_53 ?_
      refine k_iconst (pc := 56) (v := 2) C dX7_giving_56 (by decide) ?_
      refine k_imul (pc := 57) C dX7_giving_57 ?_
      refine k_istore_4 (pc := 58) C dX7_giving_58 rfl ?_
      refine k_aload_n (pc := 60) C dX7_giving_60 rfl ?_
      refine k_getR (pc := 61) (r := some (8, 6, 0)) C fl_X7_20 k_in7 rfl rfl rfl dX7_giving_61 ?_
      refine k_iload_n (pc := 64) C dX7_giving_64 rfl ?_
      refine k_ialdX (pc := 65) (j := cz.toNatClampNeg) C rfl (by decide +kernel) rfl hc dX7_giving_65 ?_
      refine k_sx (x := mi (8, 6, 0) cz.toNatClampNeg) (Eq.trans (looking_fr (by decide) (by simp)) (body_fr (by decide) (by simp))) ?_
      refine k_iconst (pc := 66) (v := 1) C dX7_giving_66 (by decide) ?_
      refine k_icmp_neT (pc := 67) C 82 dX7_giving_67 (by decide) k1 ?_
      refine k_iload (pc := 82) C dX7_giving_82 rfl ?_
      exact k_iret (pc := 84) C rfl  (k_fIm (by unfold f_X7_giving; rw [if_neg k1, if_neg k6]; try rfl)) dX7_giving_84
theorem giving_ran {mi : MemI} {cz x : Int32} {r : Nat} (h : mi (7, 0, 0) 51 = nI r) : ∃ q, (f_X7_giving mi cz x).2 (7, 0, 0) 51 = nI (r + q) ∧ q ≤ 6 := by
  unfold f_X7_giving
  repeat' split
  · obtain ⟨q, h1, h2⟩ := looking_ran (cz := cz) (x := x) (body_ran (b := 11) (body_ran (b := 20) h))
    exact ⟨2 + q, by rw [h1]; congr 1; omega, by omega⟩
  · obtain ⟨q, h1, h2⟩ := looking_ran (cz := cz) (x := x - mi (8, 7, 0) cz.toNatClampNeg) (body_ran (b := 11) (body_ran (b := 71) h))
    exact ⟨2 + q, by rw [h1]; congr 1; omega, by omega⟩
  · obtain ⟨q, h1, h2⟩ := looking_ran (cz := cz) (x := x) (body_ran (b := 11) h)
    exact ⟨1 + q, by rw [h1]; congr 1; omega, by omega⟩
theorem giving_fr {mi : MemI} {cz x : Int32} {k : Ky} {j : Nat} (h1 : k ≠ (8, 50, 0)) (h2 : ¬ (k = (7, 0, 0) ∧ j = 51)) : (f_X7_giving mi cz x).2 k j = mi k j := by
  unfold f_X7_giving
  repeat' split
  all_goals simp only [looking_fr h1 h2, body_fr h1 h2]
def f_X7_shutting (mi : MemI) (cz : Int32) (x : Int32) : Int32 × MemI :=
  if (mi (8, 6, 0) cz.toNatClampNeg) = 5 then ((-(((f_X7_giving (f_X7_body (f_X7_body (f_X7_body mi 60) 50) 12) cz x).1) ^^^ ((f_X7_looking ((f_X7_giving (f_X7_body (f_X7_body (f_X7_body mi 60) 50) 12) cz x).2) cz (x - (mi (8, 7, 0) cz.toNatClampNeg))).1))) ^^^ 5, (f_X7_looking ((f_X7_giving (f_X7_body (f_X7_body (f_X7_body mi 60) 50) 12) cz x).2) cz (x - (mi (8, 7, 0) cz.toNatClampNeg))).2)
  else if (mi (8, 6, 0) cz.toNatClampNeg) = 4 then (-(((f_X7_giving (f_X7_body (f_X7_body mi 50) 12) cz x).1) ^^^ ((f_X7_looking ((f_X7_giving (f_X7_body (f_X7_body mi 50) 12) cz x).2) cz (x - (mi (8, 7, 0) cz.toNatClampNeg))).1)), (f_X7_looking ((f_X7_giving (f_X7_body (f_X7_body mi 50) 12) cz x).2) cz (x - (mi (8, 7, 0) cz.toNatClampNeg))).2)
    else (((f_X7_giving (f_X7_body mi 12) cz x).1) ^^^ ((f_X7_looking ((f_X7_giving (f_X7_body mi 12) cz x).2) cz (x - (mi (8, 7, 0) cz.toNatClampNeg))).1), (f_X7_looking ((f_X7_giving (f_X7_body mi 12) cz x).2) cz (x - (mi (8, 7, 0) cz.toNatClampNeg))).2)
set_option maxRecDepth 100000 in
set_option maxHeartbeats 4000000 in
theorem ct_X7_shutting {r : Nat} {mi : MemI} {ml : MemL} {cz : Int32} {x : Int32} (hc : vp_in cz 6) (hr : mi (7, 0, 0) 51 = nI r) (hr9 : r < 300) : k_Ct k_KS k_R0 Mt_X7_shutting 3 [vR (7, 0, 0), vI cz, vI x] mi ml (k_rt (some (vI (f_X7_shutting mi cz x).1)) (f_X7_shutting mi cz x).2 ml) := by
  refine k_ofV (L0 := [vR (7, 0, 0), vI cz, vI x, vU, vU]) (by decide +kernel) (Nat.le_of_ble_eq_true rfl) rfl rfl ?_
  intro p l e s m args below meth c D cy ad bs C
  refine k_aload_n (pc := 0) C dX7_shutting_0 rfl ?_
  refine k_getR (pc := 1) (r := some (8, 6, 0)) C fl_X7_20 k_in7 rfl rfl rfl dX7_shutting_1 ?_
  refine k_iload_n (pc := 4) C dX7_shutting_4 rfl ?_
  refine k_ialdX (pc := 5) (j := cz.toNatClampNeg) C rfl (by decide +kernel) rfl hc dX7_shutting_5 ?_
  refine k_istore_3 (pc := 6) C dX7_shutting_6 rfl ?_
  refine k_iload_n (pc := 7) C dX7_shutting_7 rfl ?_
  refine k_iconst (pc := 8) (v := 5) C dX7_shutting_8 (by decide) ?_
  refine k_icmp_ne (pc := 9) C 18 dX7_shutting_9 (by decide) (fun c9 => ?_) (fun c9 => ?_)
  · skip
    refine k_iload_n (pc := 18) C dX7_shutting_18 rfl ?_
    refine k_iconst (pc := 19) (v := 4) C dX7_shutting_19 (by decide) ?_
    refine k_icmp_eq (pc := 20) C 28 dX7_shutting_20 (by decide) (fun c20 => ?_) (fun c20 => ?_)
    · skip
      refine k_aload_n (pc := 28) C dX7_shutting_28 rfl ?_
      refine k_bipush (pc := 29) (v := 50) C dX7_shutting_29 (by decide) ?_
      refine k_callv1 (pc := 31) C cv_X7_278 (ct_X7_body (k_nneg hr (by omega))) k_in7 rfl (by decide) rfl (Nat.le_of_ble_eq_true rfl) dX7_shutting_31 ?_
      refine k_aload_n (pc := 34) C dX7_shutting_34 rfl ?_
      refine k_bipush (pc := 35) (v := 12) C dX7_shutting_35 (by decide) ?_
      refine k_callv1 (pc := 37) C cv_X7_278 (ct_X7_body (k_nneg (body_ran hr) (by omega))) k_in7 rfl (by decide) rfl (Nat.le_of_ble_eq_true rfl) dX7_shutting_37 ?_
      refine k_aload_n (pc := 40) C dX7_shutting_40 rfl ?_
      refine k_iload_n (pc := 41) C dX7_shutting_41 rfl ?_
      refine k_iload_n (pc := 42) C dX7_shutting_42 rfl ?_
      refine k_call2 (pc := 43) C cv_X7_284 (ct_X7_giving (by assumption) (body_ran (body_ran hr)) (by omega)) k_in7 rfl (by decide) rfl (Nat.le_of_ble_eq_true rfl) dX7_shutting_43 ?_
      obtain ⟨q8, hq8, hq9⟩ := giving_ran (cz := cz) (x := x) (body_ran (body_ran hr))
      refine k_istore_4 (pc := 46) C dX7_shutting_46 rfl ?_
      refine k_iload (pc := 48) C dX7_shutting_48 rfl ?_
      refine k_aload_n (pc := 50) C dX7_shutting_50 rfl ?_
      refine k_iload_n (pc := 51) C dX7_shutting_51 rfl ?_
      refine k_iload_n (pc := 52) C dX7_shutting_52 rfl ?_
      refine k_aload_n (pc := 53) C dX7_shutting_53 rfl ?_
      refine k_getR (pc := 54) (r := some (8, 7, 0)) C fl_X7_23 k_in7 rfl rfl rfl dX7_shutting_54 ?_
      refine k_iload_n (pc := 57) C dX7_shutting_57 rfl ?_
      refine k_ialdX (pc := 58) (j := cz.toNatClampNeg) C rfl (by decide +kernel) rfl hc dX7_shutting_58 ?_
      refine k_sx (x := mi (8, 7, 0) cz.toNatClampNeg) (Eq.trans (giving_fr (by decide) (by simp)) (Eq.trans (body_fr (by decide) (by simp)) (body_fr (by decide) (by simp)))) ?_
      refine k_isub (pc := 59) C dX7_shutting_59 ?_
      refine k_call2 (pc := 60) C cv_X7_281 (ct_X7_looking (by assumption) hq8 (by omega)) k_in7 rfl (by decide) rfl (Nat.le_of_ble_eq_true rfl) dX7_shutting_60 ?_
      refine k_ixor (pc := 63) C dX7_shutting_63 ?_
      refine k_istore_4 (pc := 64) C dX7_shutting_64 rfl ?_
      refine k_iload_n (pc := 66) C dX7_shutting_66 rfl ?_
      refine k_iconst (pc := 67) (v := 4) C dX7_shutting_67 (by decide) ?_
      refine k_icmp_eqT (pc := 68) C 76 dX7_shutting_68 (by decide) c20 ?_
      refine k_iload (pc := 76) C dX7_shutting_76 rfl ?_
      refine k_ineg (pc := 78) C dX7_shutting_78 ?_
      refine k_istore_4 (pc := 79) C dX7_shutting_79 rfl ?_
      refine k_iload_n (pc := 81) C dX7_shutting_81 rfl ?_
      refine k_iconst (pc := 82) (v := 5) C dX7_shutting_82 (by decide) ?_
      refine k_icmp_neT (pc := 83) C 93 dX7_shutting_83 (by decide) c9 ?_
      refine k_iload (pc := 93) C dX7_shutting_93 rfl ?_
      exact k_iret (pc := 95) C rfl  (k_fIm (by unfold f_X7_shutting; rw [if_neg c9, if_pos c20]; try rfl)) dX7_shutting_95
    · skip
      refine k_iload_n (pc := 23) C dX7_shutting_23 rfl ?_
      refine k_iconst (pc := 24) (v := 5) C dX7_shutting_24 (by decide) ?_
      refine k_icmp_neT (pc := 25) C 34 dX7_shutting_25 (by decide) c9 ?_
      refine k_aload_n (pc := 34) C dX7_shutting_34 rfl ?_
      refine k_bipush (pc := 35) (v := 12) C dX7_shutting_35 (by decide) ?_
      refine k_callv1 (pc := 37) C cv_X7_278 (ct_X7_body (k_nneg hr (by omega))) k_in7 rfl (by decide) rfl (Nat.le_of_ble_eq_true rfl) dX7_shutting_37 ?_
      refine k_aload_n (pc := 40) C dX7_shutting_40 rfl ?_
      refine k_iload_n (pc := 41) C dX7_shutting_41 rfl ?_
      refine k_iload_n (pc := 42) C dX7_shutting_42 rfl ?_
      refine k_call2 (pc := 43) C cv_X7_284 (ct_X7_giving (by assumption) (body_ran hr) (by omega)) k_in7 rfl (by decide) rfl (Nat.le_of_ble_eq_true rfl) dX7_shutting_43 ?_
      obtain ⟨q8, hq8, hq9⟩ := giving_ran (cz := cz) (x := x) (body_ran hr)
      refine k_istore_4 (pc := 46) C dX7_shutting_46 rfl ?_
      refine k_iload (pc := 48) C dX7_shutting_48 rfl ?_
      refine k_aload_n (pc := 50) C dX7_shutting_50 rfl ?_
      refine k_iload_n (pc := 51) C dX7_shutting_51 rfl ?_
      refine k_iload_n (pc := 52) C dX7_shutting_52 rfl ?_
      refine k_aload_n (pc := 53) C dX7_shutting_53 rfl ?_
      refine k_getR (pc := 54) (r := some (8, 7, 0)) C fl_X7_23 k_in7 rfl rfl rfl dX7_shutting_54 ?_
      refine k_iload_n (pc := 57) C dX7_shutting_57 rfl ?_
      refine k_ialdX (pc := 58) (j := cz.toNatClampNeg) C rfl (by decide +kernel) rfl hc dX7_shutting_58 ?_
      refine k_sx (x := mi (8, 7, 0) cz.toNatClampNeg) (Eq.trans (giving_fr (by decide) (by simp)) (body_fr (by decide) (by simp))) ?_
      refine k_isub (pc := 59) C dX7_shutting_59 ?_
      refine k_call2 (pc := 60) C cv_X7_281 (ct_X7_looking (by assumption) hq8 (by omega)) k_in7 rfl (by decide) rfl (Nat.le_of_ble_eq_true rfl) dX7_shutting_60 ?_
      refine k_ixor (pc := 63) C dX7_shutting_63 ?_
      refine k_istore_4 (pc := 64) C dX7_shutting_64 rfl ?_
      refine k_iload_n (pc := 66) C dX7_shutting_66 rfl ?_
      refine k_iconst (pc := 67) (v := 4) C dX7_shutting_67 (by decide) ?_
      refine k_icmp_eqF (pc := 68) C 76 dX7_shutting_68 (by decide) c20 ?_
      refine k_iload_n (pc := 71) C dX7_shutting_71 rfl ?_
      refine k_iconst (pc := 72) (v := 5) C dX7_shutting_72 (by decide) ?_
      refine k_icmp_neT (pc := 73) C 81 dX7_shutting_73 (by decide) c9 ?_
      refine k_iload_n (pc := 81) C dX7_shutting_81 rfl ?_
      refine k_iconst (pc := 82) (v := 5) C dX7_shutting_82 (by decide) ?_
      refine k_icmp_neT (pc := 83) C 93 dX7_shutting_83 (by decide) c9 ?_
      refine k_iload (pc := 93) C dX7_shutting_93 rfl ?_
      exact k_iret (pc := 95) C rfl  (k_fIm (by unfold f_X7_shutting; rw [if_neg c9, if_neg c20]; try rfl)) dX7_shutting_95
  · skip
    refine k_aload_n (pc := 12) C dX7_shutting_12 rfl ?_
    refine k_bipush (pc := 13) (v := 60) C dX7_shutting_13 (by decide) ?_
    refine k_callv1 (pc := 15) C cv_X7_278 (ct_X7_body (k_nneg hr (by omega))) k_in7 rfl (by decide) rfl (Nat.le_of_ble_eq_true rfl) dX7_shutting_15 ?_
    refine k_iload_n (pc := 18) C dX7_shutting_18 rfl ?_
    refine k_iconst (pc := 19) (v := 4) C dX7_shutting_19 (by decide) ?_
    refine k_icmp_eqF (pc := 20) C 28 dX7_shutting_20 (by decide) (by rw [c9]; decide) ?_
    refine k_iload_n (pc := 23) C dX7_shutting_23 rfl ?_
    refine k_iconst (pc := 24) (v := 5) C dX7_shutting_24 (by decide) ?_
    refine k_icmp_neF (pc := 25) C 34 dX7_shutting_25 (by decide) c9 ?_
    refine k_aload_n (pc := 28) C dX7_shutting_28 rfl ?_
    refine k_bipush (pc := 29) (v := 50) C dX7_shutting_29 (by decide) ?_
    refine k_callv1 (pc := 31) C cv_X7_278 (ct_X7_body (k_nneg (body_ran hr) (by omega))) k_in7 rfl (by decide) rfl (Nat.le_of_ble_eq_true rfl) dX7_shutting_31 ?_
    refine k_aload_n (pc := 34) C dX7_shutting_34 rfl ?_
    refine k_bipush (pc := 35) (v := 12) C dX7_shutting_35 (by decide) ?_
    refine k_callv1 (pc := 37) C cv_X7_278 (ct_X7_body (k_nneg (body_ran (body_ran hr)) (by omega))) k_in7 rfl (by decide) rfl (Nat.le_of_ble_eq_true rfl) dX7_shutting_37 ?_
    refine k_aload_n (pc := 40) C dX7_shutting_40 rfl ?_
    refine k_iload_n (pc := 41) C dX7_shutting_41 rfl ?_
    refine k_iload_n (pc := 42) C dX7_shutting_42 rfl ?_
    refine k_call2 (pc := 43) C cv_X7_284 (ct_X7_giving (by assumption) (body_ran (body_ran (body_ran hr))) (by omega)) k_in7 rfl (by decide) rfl (Nat.le_of_ble_eq_true rfl) dX7_shutting_43 ?_
    obtain ⟨q8, hq8, hq9⟩ := giving_ran (cz := cz) (x := x) (body_ran (body_ran (body_ran hr)))
    refine k_istore_4 (pc := 46) C dX7_shutting_46 rfl ?_
    refine k_iload (pc := 48) C dX7_shutting_48 rfl ?_
    refine k_aload_n (pc := 50) C dX7_shutting_50 rfl ?_
    refine k_iload_n (pc := 51) C dX7_shutting_51 rfl ?_
    refine k_iload_n (pc := 52) C dX7_shutting_52 rfl ?_
    refine k_aload_n (pc := 53) C dX7_shutting_53 rfl ?_
    refine k_getR (pc := 54) (r := some (8, 7, 0)) C fl_X7_23 k_in7 rfl rfl rfl dX7_shutting_54 ?_
    refine k_iload_n (pc := 57) C dX7_shutting_57 rfl ?_
    refine k_ialdX (pc := 58) (j := cz.toNatClampNeg) C rfl (by decide +kernel) rfl hc dX7_shutting_58 ?_
    refine k_sx (x := mi (8, 7, 0) cz.toNatClampNeg) (Eq.trans (giving_fr (by decide) (by simp)) (Eq.trans (body_fr (by decide) (by simp)) (Eq.trans (body_fr (by decide) (by simp)) (body_fr (by decide) (by simp))))) ?_
    refine k_isub (pc := 59) C dX7_shutting_59 ?_
    refine k_call2 (pc := 60) C cv_X7_281 (ct_X7_looking (by assumption) hq8 (by omega)) k_in7 rfl (by decide) rfl (Nat.le_of_ble_eq_true rfl) dX7_shutting_60 ?_
    refine k_ixor (pc := 63) C dX7_shutting_63 ?_
    refine k_istore_4 (pc := 64) C dX7_shutting_64 rfl ?_
    refine k_iload_n (pc := 66) C dX7_shutting_66 rfl ?_
    refine k_iconst (pc := 67) (v := 4) C dX7_shutting_67 (by decide) ?_
    refine k_icmp_eqF (pc := 68) C 76 dX7_shutting_68 (by decide) (by rw [c9]; decide) ?_
    refine k_iload_n (pc := 71) C dX7_shutting_71 rfl ?_
    refine k_iconst (pc := 72) (v := 5) C dX7_shutting_72 (by decide) ?_
    refine k_icmp_neF (pc := 73) C 81 dX7_shutting_73 (by decide) c9 ?_
    refine k_iload (pc := 76) C dX7_shutting_76 rfl ?_
    refine k_ineg (pc := 78) C dX7_shutting_78 ?_
    refine k_istore_4 (pc := 79) C dX7_shutting_79 rfl ?_
    refine k_iload_n (pc := 81) C dX7_shutting_81 rfl ?_
    refine k_iconst (pc := 82) (v := 5) C dX7_shutting_82 (by decide) ?_
    refine k_icmp_neF (pc := 83) C 93 dX7_shutting_83 (by decide) c9 ?_
    refine k_iload (pc := 86) C dX7_shutting_86 rfl ?_
    refine k_iconst (pc := 88) (v := 5) C dX7_shutting_88 (by decide) ?_
    refine k_ixor (pc := 89) C dX7_shutting_89 ?_
    refine k_goto (pc := 90) C 95 dX7_shutting_90 (by decide) ?_
    exact k_iret (pc := 95) C rfl  (k_fIm (by unfold f_X7_shutting; rw [if_pos c9]; try rfl)) dX7_shutting_95
theorem k_uk2 {mi : MemI} {k : Ky} {v : Int32} : k_ui mi k 51 v k 0 = mi k 0 := k_uj (by decide)
def f_X7_act (mi : MemI) (cz : Int32) (mv : Int32) (x : Int32) : Int32 × MemI :=
  if (f_X7_isCitizen (k_ui mi (7, 0, 0) 51 0) cz) = 0 then (0, k_ui mi (7, 0, 0) 51 0)
  else if mv < 0 then (0, k_ui mi (7, 0, 0) 51 0)
    else if mv ≤ 2 then if mv = 0 then ((f_X7_looking (k_ui mi (7, 0, 0) 51 0) cz x).1, (f_X7_looking (k_ui mi (7, 0, 0) 51 0) cz x).2)
        else if mv = 1 then ((f_X7_giving (k_ui mi (7, 0, 0) 51 0) cz x).1, (f_X7_giving (k_ui mi (7, 0, 0) 51 0) cz x).2)
          else ((f_X7_shutting (k_ui mi (7, 0, 0) 51 0) cz x).1, (f_X7_shutting (k_ui mi (7, 0, 0) 51 0) cz x).2)
      else (0, k_ui mi (7, 0, 0) 51 0)
set_option maxRecDepth 100000 in
set_option maxHeartbeats 4000000 in
theorem ct_X7_act {nC nB : Nat} {mi : MemI} {ml : MemL} {cz : Int32} {mv : Int32} {x : Int32} (hm : k_mo nC nB mi) : k_Ct k_KS k_R0 Mt_X7_act 4 [vR (7, 0, 0), vI cz, vI mv, vI x] mi ml (k_rt (some (vI (f_X7_act mi cz mv x).1)) (f_X7_act mi cz mv x).2 ml) := by
  refine k_ofV (L0 := [vR (7, 0, 0), vI cz, vI mv, vI x]) (by decide +kernel) (Nat.le_of_ble_eq_true rfl) rfl rfl ?_
  intro p l e s m args below meth c D cy ad bs C
  have hC := hm.1
  have h6 := hm.2.1
  have hB := hm.2.2.1
  have h6b := hm.2.2.2.1
  refine k_aload_n (pc := 0) C dX7_act_0 rfl ?_
  refine k_iconst (pc := 1) (v := 0) C dX7_act_1 (by decide) ?_
  refine k_putI (pc := 2) C pl_X7_275 k_in7 rfl rfl dX7_act_2 ?_
  refine k_aload_n (pc := 5) C dX7_act_5 rfl ?_
  refine k_iload_n (pc := 6) C dX7_act_6 rfl ?_
  refine k_call1 (pc := 7) C cv_X7_143 ct_X7_isCitizen k_in7 rfl (by decide) rfl (Nat.le_of_ble_eq_true rfl) dX7_act_7 ?_
  refine k_if_eq (pc := 10) C 22 dX7_act_10 (by decide) (fun c10 => ?_) (fun c10 => ?_)
  · skip
    refine k_iconst (pc := 22) (v := 0) C dX7_act_22 (by decide) ?_
    exact k_iret (pc := 23) C rfl  (k_fIm (by unfold f_X7_act; rw [if_pos c10]; try rfl)) dX7_act_23
  · skip
    have qc10 := vp_mono (isCitizen_in (nC := nC) (by rw [k_uk2]; exact hC) h6 c10) h6
    refine k_iload_n (pc := 13) C dX7_act_13 rfl ?_
    refine k_if_lt (pc := 14) C 22 dX7_act_14 (by decide) (fun c14 => ?_) (fun c14 => ?_)
    · skip
      refine k_iconst (pc := 22) (v := 0) C dX7_act_22 (by decide) ?_
      exact k_iret (pc := 23) C rfl  (k_fIm (by unfold f_X7_act; rw [if_neg c10, if_pos c14]; try rfl)) dX7_act_23
    · skip
      refine k_iload_n (pc := 17) C dX7_act_17 rfl ?_
      refine k_iconst (pc := 18) (v := 2) C dX7_act_18 (by decide) ?_
      refine k_icmp_le (pc := 19) C 24 dX7_act_19 (by decide) (fun c19 => ?_) (fun c19 => ?_)
      · skip
        refine k_iload_n (pc := 24) C dX7_act_24 rfl ?_
        refine k_if_ne (pc := 25) C 37 dX7_act_25 (by decide) (fun c25 => ?_) (fun c25 => ?_)
        · skip
          refine k_iload_n (pc := 37) C dX7_act_37 rfl ?_
          refine k_iconst (pc := 38) (v := 1) C dX7_act_38 (by decide) ?_
          refine k_icmp_ne (pc := 39) C 51 dX7_act_39 (by decide) (fun c39 => ?_) (fun c39 => ?_)
          · skip
            refine k_aload_n (pc := 51) C dX7_act_51 rfl ?_
            refine k_iload_n (pc := 52) C dX7_act_52 rfl ?_
            refine k_iload_n (pc := 53) C dX7_act_53 rfl ?_
            refine k_call2 (pc := 54) C cv_X7_287 (ct_X7_shutting (by assumption) (k_uis (v := nI 0)) (by decide)) k_in7 rfl (by decide) rfl (Nat.le_of_ble_eq_true rfl) dX7_act_54 ?_
            exact k_iret (pc := 57) C rfl  (k_fIm (by unfold f_X7_act; rw [if_neg c10, if_neg c14, if_pos c19, if_neg c25, if_neg c39]; try rfl)) dX7_act_57
          · skip
            refine k_aload_n (pc := 42) C dX7_act_42 rfl ?_
            refine k_iload_n (pc := 43) C dX7_act_43 rfl ?_
            refine k_iload_n (pc := 44) C dX7_act_44 rfl ?_
            refine k_call2 (pc := 45) C cv_X7_284 (ct_X7_giving (by assumption) (k_uis (v := nI 0)) (by decide)) k_in7 rfl (by decide) rfl (Nat.le_of_ble_eq_true rfl) dX7_act_45 ?_
            refine k_goto (pc := 48) C 57 dX7_act_48 (by decide) ?_
            exact k_iret (pc := 57) C rfl  (k_fIm (by unfold f_X7_act; rw [if_neg c10, if_neg c14, if_pos c19, if_neg c25, if_pos c39]; try rfl)) dX7_act_57
        · skip
          refine k_aload_n (pc := 28) C dX7_act_28 rfl ?_
          refine k_iload_n (pc := 29) C dX7_act_29 rfl ?_
          refine k_iload_n (pc := 30) C dX7_act_30 rfl ?_
          refine k_call2 (pc := 31) C cv_X7_281 (ct_X7_looking (by assumption) (k_uis (v := nI 0)) (by decide)) k_in7 rfl (by decide) rfl (Nat.le_of_ble_eq_true rfl) dX7_act_31 ?_
          refine k_goto (pc := 34) C 57 dX7_act_34 (by decide) ?_
          exact k_iret (pc := 57) C rfl  (k_fIm (by unfold f_X7_act; rw [if_neg c10, if_neg c14, if_pos c19, if_pos c25]; try rfl)) dX7_act_57
      · skip
        refine k_iconst (pc := 22) (v := 0) C dX7_act_22 (by decide) ?_
        exact k_iret (pc := 23) C rfl  (k_fIm (by unfold f_X7_act; rw [if_neg c10, if_neg c14, if_neg c19]; try rfl)) dX7_act_23
def f_X7_trace (mi : MemI) (x : Int32) : Int32 :=
  if x < 0 then (-1)
  else if 20 ≤ x then (-1)
    else if (mi (7, 0, 0) 51) ≤ x then (-1)
      else (mi (8, 50, 0) x.toNatClampNeg)
set_option maxRecDepth 100000 in
set_option maxHeartbeats 4000000 in
theorem ct_X7_trace {mi : MemI} {ml : MemL} {x : Int32}  : k_Ct k_KS k_R0 Mt_X7_trace 0 [vR (7, 0, 0), vI x] mi ml (k_rt (some (vI (f_X7_trace mi x))) mi ml) := by
  refine k_ofV (L0 := [vR (7, 0, 0), vI x]) (by decide +kernel) (Nat.le_of_ble_eq_true rfl) rfl rfl ?_
  intro p l e s m args below meth c D cy ad bs C
  refine k_iload_n (pc := 0) C dX7_trace_0 rfl ?_
  refine k_if_lt (pc := 1) C 27 dX7_trace_1 (by decide) (fun c1 => ?_) (fun c1 => ?_)
  · skip
    refine k_iconst (pc := 27) (v := (-1)) C dX7_trace_27 (by decide) ?_
    exact k_iret (pc := 28) C rfl  (k_fI (by unfold f_X7_trace; rw [if_pos c1]; try rfl)) dX7_trace_28
  · skip
    refine k_iload_n (pc := 4) C dX7_trace_4 rfl ?_
    refine k_bipush (pc := 5) (v := 20) C dX7_trace_5 (by decide) ?_
    refine k_icmp_ge (pc := 7) C 27 dX7_trace_7 (by decide) (fun c7 => ?_) (fun c7 => ?_)
    · skip
      refine k_iconst (pc := 27) (v := (-1)) C dX7_trace_27 (by decide) ?_
      exact k_iret (pc := 28) C rfl  (k_fI (by unfold f_X7_trace; rw [if_neg c1, if_pos c7]; try rfl)) dX7_trace_28
    · skip
      refine k_iload_n (pc := 10) C dX7_trace_10 rfl ?_
      refine k_aload_n (pc := 11) C dX7_trace_11 rfl ?_
      refine k_getI (pc := 12) C fl_X7_275 k_in7 rfl rfl dX7_trace_12 ?_
      refine k_icmp_ge (pc := 15) C 27 dX7_trace_15 (by decide) (fun c15 => ?_) (fun c15 => ?_)
      · skip
        refine k_iconst (pc := 27) (v := (-1)) C dX7_trace_27 (by decide) ?_
        exact k_iret (pc := 28) C rfl  (k_fI (by unfold f_X7_trace; rw [if_neg c1, if_neg c7, if_pos c15]; try rfl)) dX7_trace_28
      · skip
        refine k_aload_n (pc := 18) C dX7_trace_18 rfl ?_
        refine k_getR (pc := 19) (r := some (8, 50, 0)) C fl_X7_126 k_in7 rfl rfl rfl dX7_trace_19 ?_
        refine k_iload_n (pc := 22) C dX7_trace_22 rfl ?_
        refine k_ialdX (pc := 23) (j := x.toNatClampNeg) C rfl (by decide +kernel) rfl (k_vin (N := 20) (n := 20) c1 c7 (by decide)) dX7_trace_23 ?_
        refine k_goto (pc := 24) C 28 dX7_trace_24 (by decide) ?_
        exact k_iret (pc := 28) C rfl  (k_fI (by unfold f_X7_trace; rw [if_neg c1, if_neg c7, if_neg c15]; try rfl)) dX7_trace_28
