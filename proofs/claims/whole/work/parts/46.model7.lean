/-! Model: the file, partings, what was told -/
/-- how many of the first so many beggars come -/
def f_X7_fc (mi : MemI) : Nat → Nat
  | 0 => 0
  | j + 1 => if mi (8, 17, 0) j = 0 then f_X7_fc mi j + 1 else f_X7_fc mi j
theorem f_X7_fc_s (mi : MemI) (j : Nat) : f_X7_fc mi (j + 1) = if mi (8, 17, 0) j = 0 then f_X7_fc mi j + 1 else f_X7_fc mi j := rfl
theorem fc_le (mi : MemI) : ∀ j, f_X7_fc mi j ≤ j := by
  intro j
  induction j with
  | zero => exact Nat.le_refl _
  | succ j ih => rw [f_X7_fc_s]; split <;> omega
theorem fc_eq {m mi : MemI} (h : ∀ b, m (8, 17, 0) b = mi (8, 17, 0) b) : ∀ j, f_X7_fc m j = f_X7_fc mi j := by
  intro j
  induction j with
  | zero => rfl
  | succ j ih => rw [f_X7_fc_s, f_X7_fc_s, h, ih]
def f_X7_fi (mi : MemI) : Nat → MemI
  | 0 => mi
  | j + 1 =>
    if (mi (8, 17, 0) j) = 0 then k_ui (k_ui (f_X7_fi mi j) (7, 0, 0) 48 ((nI (f_X7_fc mi j)) + 1)) (8, 44, 0) (f_X7_fc mi j) (nI j)
    else (f_X7_fi mi j)
theorem f_X7_fi_s (mi : MemI) (j : Nat) : f_X7_fi mi (j + 1) =
    if (mi (8, 17, 0) j) = 0 then k_ui (k_ui (f_X7_fi mi j) (7, 0, 0) 48 ((nI (f_X7_fc mi j)) + 1)) (8, 44, 0) (f_X7_fc mi j) (nI j)
    else (f_X7_fi mi j) := rfl
theorem fi_fr {mi : MemI} {k : Ky} {q : Nat} (h1 : k ≠ (8, 44, 0)) (h2 : ¬ (k = (7, 0, 0) ∧ q = 48)) : ∀ j, f_X7_fi mi j k q = mi k q := by
  intro j
  induction j with
  | zero => rfl
  | succ j ih =>
    rw [f_X7_fi_s]
    split
    · rw [k_uk h1]; exact (if_neg h2).trans ih
    · exact ih
theorem fi_c {mi : MemI} (h : mi (7, 0, 0) 48 = 0) : ∀ j, f_X7_fi mi j (7, 0, 0) 48 = nI (f_X7_fc mi j) := by
  intro j
  induction j with
  | zero => exact h
  | succ j ih =>
    rw [f_X7_fi_s, f_X7_fc_s]
    split
    · rw [k_uk (by decide), k_uis, nI_succ]
    · exact ih
theorem fi_e {mi : MemI} (h : mi (7, 0, 0) 48 = 0) : ∀ j, ∀ i, i < f_X7_fc mi j → ∃ b, b < j ∧ f_X7_fi mi j (8, 44, 0) i = nI b ∧ mi (8, 17, 0) b = 0 := by
  intro j
  induction j with
  | zero => intro i hi; exact absurd hi (Nat.not_lt_zero i)
  | succ j ih =>
    intro i hi
    rw [f_X7_fc_s] at hi
    rw [f_X7_fi_s]
    split at hi
    · rename_i hp
      rw [if_pos hp]
      by_cases e : i = f_X7_fc mi j
      · subst e; exact ⟨j, by omega, k_uis, hp⟩
      · obtain ⟨b, hb, h1, h2⟩ := ih i (by omega)
        exact ⟨b, by omega, by rw [k_uj e, k_uk (by decide)]; exact h1, h2⟩
    · rename_i hp
      rw [if_neg hp]
      obtain ⟨b, hb, h1, h2⟩ := ih i hi
      exact ⟨b, by omega, h1, h2⟩
def f_X7_files (mi : MemI) (nB : Nat) : MemI :=
  (f_X7_fi (k_ui mi (7, 0, 0) 48 0) nB)
set_option maxRecDepth 100000 in
set_option maxHeartbeats 4000000 in
theorem ct_X7_files {nC : Nat} {mi : MemI} {ml : MemL} {nB : Nat} (hm : k_mo nC nB mi) : k_Ct k_KS k_R0 Mt_X7_files 0 [vR (7, 0, 0)] mi ml (k_rt none (f_X7_files mi nB) ml) := by
  refine k_ofV (L0 := [vR (7, 0, 0), vU]) (by decide +kernel) (Nat.le_of_ble_eq_true rfl) rfl rfl ?_
  intro p l e s m args below meth c D cy ad bs C
  have hC := hm.1
  have h6 := hm.2.1
  have hB := hm.2.2.1
  have h6b := hm.2.2.2.1
  refine k_aload_n (pc := 0) C dX7_files_0 rfl ?_
  refine k_iconst (pc := 1) (v := 0) C dX7_files_1 (by decide) ?_
  refine k_putI (pc := 2) C pl_X7_245 k_in7 rfl rfl dX7_files_2 ?_
  refine k_iconst (pc := 5) (v := 0) C dX7_files_5 (by decide) ?_
  refine k_istore_1 (pc := 6) C dX7_files_6 rfl ?_
  refine k_cast (L' := [vR (7, 0, 0), vI (nI 0)]) (mi' := f_X7_fi (k_ui mi (7, 0, 0) 48 0) 0) (ml' := ml) rfl rfl rfl ?_
  refine k_down (P := fun j => k_V p l e (k_rm 0) s m args below meth c D cy ad bs k_KS k_R0 0 0 (k_End below D cy ad bs k_KS k_R0 (k_rt none (f_X7_files mi nB) ml) args s) (f_X7_fi (k_ui mi (7, 0, 0) 48 0) j) ml 7 [vR (7, 0, 0), vI (nI j)] []) nB ?_ (fun j hj hk => ?_)
  · skip
    have hmj : (k_ui mi (7, 0, 0) 48 0) (7, 0, 0) 1 = nI nB := (k_uj (by decide)).trans hB
    refine k_iload_n (pc := 7) C dX7_files_7 rfl ?_
    refine k_aload_n (pc := 8) C dX7_files_8 rfl ?_
    refine k_getI (pc := 9) C fl_X7_132 k_in7 rfl rfl dX7_files_9 ?_
    refine k_sx (x := (k_ui mi (7, 0, 0) 48 0) (7, 0, 0) 1) (fi_fr (by decide) (by simp) _) ?_
    refine k_icmp_geT (pc := 12) C 47 dX7_files_12 (by decide) (k_leC hmj) ?_
    exact k_vret (pc := 47) C rfl (k_fm (by unfold f_X7_files; try rfl)) dX7_files_47
  · skip
    try dsimp only at hk
    have hmj : (k_ui mi (7, 0, 0) 48 0) (7, 0, 0) 1 = nI nB := (k_uj (by decide)).trans hB
    have hfc := fc_le (k_ui mi (7, 0, 0) 48 0) j
    refine k_iload_n (pc := 7) C dX7_files_7 rfl ?_
    refine k_aload_n (pc := 8) C dX7_files_8 rfl ?_
    refine k_getI (pc := 9) C fl_X7_132 k_in7 rfl rfl dX7_files_9 ?_
    refine k_sx (x := (k_ui mi (7, 0, 0) 48 0) (7, 0, 0) 1) (fi_fr (by decide) (by simp) _) ?_
    refine k_icmp_geF (pc := 12) C 47 dX7_files_12 (by decide) (k_ngeC hmj h6b hj) ?_
    refine k_aload_n (pc := 15) C dX7_files_15 rfl ?_
    refine k_getR (pc := 16) (r := some (8, 17, 0)) C fl_X7_53 k_in7 rfl rfl rfl dX7_files_16 ?_
    refine k_iload_n (pc := 19) C dX7_files_19 rfl ?_
    refine k_ialdX (pc := 20) (j := j) C (nI_clamp (by omega)) (by decide +kernel) rfl (vp_in_nI (show _ < (6 : Nat) by omega) (show (6 : Nat) < 2 ^ 31 by decide)) dX7_files_20 ?_
    refine k_sx (x := (k_ui mi (7, 0, 0) 48 0) (8, 17, 0) j) (fi_fr (by decide) (by simp) _) ?_
    refine k_if_ne (pc := 21) C 41 dX7_files_21 (by decide) (fun c21 => ?_) (fun c21 => ?_)
    · skip
      refine k_iinc_1 (pc := 41) (v := nI (j + 1)) C dX7_files_41 (k_inc j) rfl ?_
      refine k_goto (pc := 44) C 7 dX7_files_44 (by decide) ?_
      exact k_cast rfl (by rw [f_X7_fi_s, if_neg c21]) rfl hk
    · skip
      refine k_aload_n (pc := 24) C dX7_files_24 rfl ?_
      refine k_getR (pc := 25) (r := some (8, 44, 0)) C fl_X7_114 k_in7 rfl rfl rfl dX7_files_25 ?_
      refine k_aload_n (pc := 28) C dX7_files_28 rfl ?_
      refine k_dup (pc := 29) C dX7_files_29 rfl ?_
      refine k_getI (pc := 30) C fl_X7_245 k_in7 rfl rfl dX7_files_30 ?_
      refine k_sx (x := nI (f_X7_fc (k_ui mi (7, 0, 0) 48 0) j)) (fi_c (k_uis (v := 0)) j) ?_
      refine k_dup_x1 (pc := 33) C dX7_files_33 rfl rfl ?_
      refine k_iconst (pc := 34) (v := 1) C dX7_files_34 (by decide) ?_
      refine k_iadd (pc := 35) C dX7_files_35 ?_
      refine k_putI (pc := 36) C pl_X7_245 k_in7 rfl rfl dX7_files_36 ?_
      refine k_iload_n (pc := 39) C dX7_files_39 rfl ?_
      refine k_iastX (pc := 40) (j := (f_X7_fc (k_ui mi (7, 0, 0) 48 0) j)) C (nI_clamp (by omega)) (by decide +kernel) rfl (vp_in_nI (show _ < (6 : Nat) by omega) (show (6 : Nat) < 2 ^ 31 by decide)) dX7_files_40 ?_
      refine k_iinc_1 (pc := 41) (v := nI (j + 1)) C dX7_files_41 (k_inc j) rfl ?_
      refine k_goto (pc := 44) C 7 dX7_files_44 (by decide) ?_
      exact k_cast rfl (by rw [f_X7_fi_s, if_pos c21]) rfl hk
theorem files_c {mi : MemI} {nB : Nat} : f_X7_files mi nB (7, 0, 0) 48 = nI (f_X7_fc mi nB) :=
  (fi_c (k_uis (v := 0)) nB).trans (congrArg nI (fc_eq (fun b => k_uk (by decide)) nB))
theorem files_fr {mi : MemI} {nB : Nat} {k : Ky} {q : Nat} (h1 : k ≠ (8, 44, 0)) (h2 : ¬ (k = (7, 0, 0) ∧ q = 48)) : f_X7_files mi nB k q = mi k q :=
  (fi_fr h1 h2 nB).trans (if_neg h2)
theorem files_e {mi : MemI} {nB i : Nat} (hi : i < f_X7_fc mi nB) : ∃ b, b < nB ∧ f_X7_files mi nB (8, 44, 0) i = nI b ∧ mi (8, 17, 0) b = 0 := by
  obtain ⟨b, hb, h1, h2⟩ := fi_e (mi := k_ui mi (7, 0, 0) 48 0) (k_uis (v := 0)) nB i (by rw [fc_eq (m := k_ui mi (7, 0, 0) 48 0) (mi := mi) (fun b => k_uk (by decide)) nB]; exact hi)
  exact ⟨b, hb, h1, (k_uk (by decide)).symm.trans h2⟩
/-- what a parting needs of the model's memory -/
def k_pt (nC cm : Nat) (mi : MemI) : Prop := mi (7, 0, 0) 0 = nI nC ∧ nC ≤ 6 ∧ mi (7, 0, 0) 48 = nI cm ∧ cm ≤ 6 ∧ ∀ i, i < cm → vp_in (mi (8, 44, 0) i) 6
theorem k_pt_ui {nC cm : Nat} {mi : MemI} {k : Ky} {j : Nat} {v : Int32} (h : k_pt nC cm mi) (h1 : ¬ (k = (7, 0, 0) ∧ (j = 0 ∨ j = 48))) (h2 : k ≠ (8, 44, 0)) : k_pt nC cm (k_ui mi k j v) := by
  obtain ⟨a1, a2, a3, a4, a5⟩ := h
  refine ⟨?_, a2, ?_, a4, fun b hb => ?_⟩
  · rw [← a1]; exact if_neg (fun q => h1 ⟨q.1.symm, Or.inl q.2.symm⟩)
  · rw [← a3]; exact if_neg (fun q => h1 ⟨q.1.symm, Or.inr q.2.symm⟩)
  · rw [k_uk (Ne.symm h2)]; exact a5 b hb
theorem pt_files {nC nB : Nat} {mi : MemI} (h : k_mo nC nB mi) : k_pt nC (f_X7_fc mi nB) (f_X7_files mi nB) :=
  ⟨(files_fr (by decide) (by simp)).trans h.1, h.2.1, files_c, Nat.le_trans (fc_le mi nB) h.2.2.2.1, fun i hi => by
    obtain ⟨b, hb, h1, -⟩ := files_e hi
    rw [h1]; exact vp_in_nI (by have := h.2.2.2.1; omega) (by decide)⟩
def f_X7_ptG (mi : MemI) : Nat → MemI
  | 0 => mi
  | j + 1 =>
    k_ui (f_X7_ptG mi j) (8, 46, 0) j ((f_X7_ptG mi j) (8, 45, 0) j)
theorem f_X7_ptG_s (mi : MemI) (j : Nat) : f_X7_ptG mi (j + 1) =
    k_ui (f_X7_ptG mi j) (8, 46, 0) j ((f_X7_ptG mi j) (8, 45, 0) j) := rfl
theorem ptG_fr {mi : MemI} {k : Ky} (h1 : k ≠ (8, 46, 0)) : ∀ j q, f_X7_ptG mi j k q = mi k q := by
  intro j q
  induction j with
  | zero => rfl
  | succ j ih => rw [f_X7_ptG_s, k_uk h1]; exact ih
def f_X7_ptM (mi : MemI) : Nat → Int32
  | 0 => 0
  | j + 1 =>
    if (mi (8, 47, 0) j) ≤ (f_X7_ptM mi j) then (f_X7_ptM mi j)
    else (mi (8, 47, 0) j)
theorem f_X7_ptM_s (mi : MemI) (j : Nat) : f_X7_ptM mi (j + 1) =
    if (mi (8, 47, 0) j) ≤ (f_X7_ptM mi j) then (f_X7_ptM mi j)
    else (mi (8, 47, 0) j) := rfl
def f_X7_ptE (mi : MemI) (i : Nat) (nC : Nat) (cm : Nat) : MemI :=
  if (mi (7, 0, 0) 49) = (-1) then (f_X7_ptG (k_ui mi (7, 0, 0) 49 (f_X7_ptM mi nC)) cm)
  else if (f_X7_ptM mi nC) < (mi (7, 0, 0) 49) then (f_X7_ptG (k_ui mi (7, 0, 0) 49 (f_X7_ptM mi nC)) cm)
    else mi
set_option maxRecDepth 100000 in
set_option maxHeartbeats 4000000 in
theorem ct_X7_parts_0 {mi : MemI} {ml : MemL} {i : Nat} {nC : Nat} {cm : Nat} (hp : k_pt nC cm mi) (hi : cm ≤ i) (hi6 : i ≤ 6) : k_Ct k_KS k_R0 Mt_X7_parts 0 [vR (7, 0, 0), vI (nI i)] mi ml (k_rt none (f_X7_ptE mi i nC cm) ml) := by
  refine k_ofV (L0 := [vR (7, 0, 0), vI (nI i), vU, vU]) (by decide +kernel) (Nat.le_of_ble_eq_true rfl) rfl rfl ?_
  intro p l e s m args below meth c D cy ad bs C
  have h6 := hp.2.1
  have hc6 := hp.2.2.2.1
  refine k_iload_n (pc := 0) C dX7_parts_0 rfl ?_
  refine k_aload_n (pc := 1) C dX7_parts_1 rfl ?_
  refine k_getI (pc := 2) C fl_X7_245 k_in7 rfl rfl dX7_parts_2 ?_
  refine k_icmp_geT (pc := 5) C 101 dX7_parts_5 (by decide) (by rw [hp.2.2.1]; exact nI_le hi (by omega)) ?_
  refine k_iconst (pc := 101) (v := 0) C dX7_parts_101 (by decide) ?_
  refine k_istore_2 (pc := 102) C dX7_parts_102 rfl ?_
  refine k_iconst (pc := 103) (v := 0) C dX7_parts_103 (by decide) ?_
  refine k_istore_3 (pc := 104) C dX7_parts_104 rfl ?_
  refine k_cast (L' := [vR (7, 0, 0), vI (nI i), vI (f_X7_ptM mi 0), vI (nI 0)]) (mi' := mi) (ml' := ml) rfl rfl rfl ?_
  refine k_down (P := fun j => k_V p l e (k_rm 0) s m args below meth c D cy ad bs k_KS k_R0 0 0 (k_End below D cy ad bs k_KS k_R0 (k_rt none (f_X7_ptE mi i nC cm) ml) args s) mi ml 105 [vR (7, 0, 0), vI (nI i), vI (f_X7_ptM mi j), vI (nI j)] []) nC ?_ (fun j hj hk => ?_)
  · skip
    refine k_iload_n (pc := 105) C dX7_parts_105 rfl ?_
    refine k_aload_n (pc := 106) C dX7_parts_106 rfl ?_
    refine k_getI (pc := 107) C fl_X7_129 k_in7 rfl rfl dX7_parts_107 ?_
    refine k_icmp_geT (pc := 110) C 136 dX7_parts_110 (by decide) (k_leC hp.1) ?_
    refine k_aload_n (pc := 136) C dX7_parts_136 rfl ?_
    refine k_getI (pc := 137) C fl_X7_252 k_in7 rfl rfl dX7_parts_137 ?_
    refine k_iconst (pc := 140) (v := (-1)) C dX7_parts_140 (by decide) ?_
    refine k_icmp_eq (pc := 141) C 153 dX7_parts_141 (by decide) (fun c141 => ?_) (fun c141 => ?_)
    · skip
      refine k_aload_n (pc := 153) C dX7_parts_153 rfl ?_
      refine k_iload_n (pc := 154) C dX7_parts_154 rfl ?_
      refine k_putI (pc := 155) C pl_X7_252 k_in7 rfl rfl dX7_parts_155 ?_
      refine k_iconst (pc := 158) (v := 0) C dX7_parts_158 (by decide) ?_
      refine k_istore_3 (pc := 159) C dX7_parts_159 rfl ?_
      refine k_cast (L' := [vR (7, 0, 0), vI (nI i), vI (f_X7_ptM mi nC), vI (nI 0)]) (mi' := f_X7_ptG (k_ui mi (7, 0, 0) 49 (f_X7_ptM mi nC)) 0) (ml' := ml) rfl rfl rfl ?_
      refine k_down (P := fun j => k_V p l e (k_rm 0) s m args below meth c D cy ad bs k_KS k_R0 0 0 (k_End below D cy ad bs k_KS k_R0 (k_rt none (f_X7_ptE mi i nC cm) ml) args s) (f_X7_ptG (k_ui mi (7, 0, 0) 49 (f_X7_ptM mi nC)) j) ml 160 [vR (7, 0, 0), vI (nI i), vI (f_X7_ptM mi nC), vI (nI j)] []) cm ?_ (fun j hj hk => ?_)
      · skip
        refine k_iload_n (pc := 160) C dX7_parts_160 rfl ?_
        refine k_aload_n (pc := 161) C dX7_parts_161 rfl ?_
        refine k_getI (pc := 162) C fl_X7_245 k_in7 rfl rfl dX7_parts_162 ?_
        refine k_icmp_geT (pc := 165) C 186 dX7_parts_165 (by decide) (k_leC ((ptG_fr (by decide) cm 48).trans ((k_uj (by decide)).trans hp.2.2.1))) ?_
        exact k_vret (pc := 186) C rfl (k_fm (by unfold f_X7_ptE; rw [if_pos c141]; try rfl)) dX7_parts_186
      · skip
        try dsimp only at hk
        refine k_iload_n (pc := 160) C dX7_parts_160 rfl ?_
        refine k_aload_n (pc := 161) C dX7_parts_161 rfl ?_
        refine k_getI (pc := 162) C fl_X7_245 k_in7 rfl rfl dX7_parts_162 ?_
        refine k_icmp_geF (pc := 165) C 186 dX7_parts_165 (by decide) (k_ngeC ((ptG_fr (by decide) j 48).trans ((k_uj (by decide)).trans hp.2.2.1)) hp.2.2.2.1 hj) ?_
        refine k_aload_n (pc := 168) C dX7_parts_168 rfl ?_
        refine k_getR (pc := 169) (r := some (8, 46, 0)) C fl_X7_120 k_in7 rfl rfl rfl dX7_parts_169 ?_
        refine k_iload_n (pc := 172) C dX7_parts_172 rfl ?_
        refine k_aload_n (pc := 173) C dX7_parts_173 rfl ?_
        refine k_getR (pc := 174) (r := some (8, 45, 0)) C fl_X7_117 k_in7 rfl rfl rfl dX7_parts_174 ?_
        refine k_iload_n (pc := 177) C dX7_parts_177 rfl ?_
        refine k_ialdX (pc := 178) (j := j) C (nI_clamp (by omega)) (by decide +kernel) rfl (vp_in_nI (show _ < (6 : Nat) by omega) (show (6 : Nat) < 2 ^ 31 by decide)) dX7_parts_178 ?_
        refine k_iastX (pc := 179) (j := j) C (nI_clamp (by omega)) (by decide +kernel) rfl (vp_in_nI (show _ < (6 : Nat) by omega) (show (6 : Nat) < 2 ^ 31 by decide)) dX7_parts_179 ?_
        refine k_iinc_3 (pc := 180) (v := nI (j + 1)) C dX7_parts_180 (k_inc j) rfl ?_
        refine k_goto (pc := 183) C 160 dX7_parts_183 (by decide) ?_
        exact k_cast rfl (by rw [f_X7_ptG_s]) rfl hk
    · skip
      refine k_iload_n (pc := 144) C dX7_parts_144 rfl ?_
      refine k_aload_n (pc := 145) C dX7_parts_145 rfl ?_
      refine k_getI (pc := 146) C fl_X7_252 k_in7 rfl rfl dX7_parts_146 ?_
      refine k_icmp_lt (pc := 149) C 153 dX7_parts_149 (by decide) (fun c149 => ?_) (fun c149 => ?_)
      · skip
        refine k_aload_n (pc := 153) C dX7_parts_153 rfl ?_
        refine k_iload_n (pc := 154) C dX7_parts_154 rfl ?_
        refine k_putI (pc := 155) C pl_X7_252 k_in7 rfl rfl dX7_parts_155 ?_
        refine k_iconst (pc := 158) (v := 0) C dX7_parts_158 (by decide) ?_
        refine k_istore_3 (pc := 159) C dX7_parts_159 rfl ?_
        refine k_cast (L' := [vR (7, 0, 0), vI (nI i), vI (f_X7_ptM mi nC), vI (nI 0)]) (mi' := f_X7_ptG (k_ui mi (7, 0, 0) 49 (f_X7_ptM mi nC)) 0) (ml' := ml) rfl rfl rfl ?_
        refine k_down (P := fun j => k_V p l e (k_rm 0) s m args below meth c D cy ad bs k_KS k_R0 0 0 (k_End below D cy ad bs k_KS k_R0 (k_rt none (f_X7_ptE mi i nC cm) ml) args s) (f_X7_ptG (k_ui mi (7, 0, 0) 49 (f_X7_ptM mi nC)) j) ml 160 [vR (7, 0, 0), vI (nI i), vI (f_X7_ptM mi nC), vI (nI j)] []) cm ?_ (fun j hj hk => ?_)
        · skip
          refine k_iload_n (pc := 160) C dX7_parts_160 rfl ?_
          refine k_aload_n (pc := 161) C dX7_parts_161 rfl ?_
          refine k_getI (pc := 162) C fl_X7_245 k_in7 rfl rfl dX7_parts_162 ?_
          refine k_icmp_geT (pc := 165) C 186 dX7_parts_165 (by decide) (k_leC ((ptG_fr (by decide) cm 48).trans ((k_uj (by decide)).trans hp.2.2.1))) ?_
          exact k_vret (pc := 186) C rfl (k_fm (by unfold f_X7_ptE; rw [if_neg c141, if_pos c149]; try rfl)) dX7_parts_186
        · skip
          try dsimp only at hk
          refine k_iload_n (pc := 160) C dX7_parts_160 rfl ?_
          refine k_aload_n (pc := 161) C dX7_parts_161 rfl ?_
          refine k_getI (pc := 162) C fl_X7_245 k_in7 rfl rfl dX7_parts_162 ?_
          refine k_icmp_geF (pc := 165) C 186 dX7_parts_165 (by decide) (k_ngeC ((ptG_fr (by decide) j 48).trans ((k_uj (by decide)).trans hp.2.2.1)) hp.2.2.2.1 hj) ?_
          refine k_aload_n (pc := 168) C dX7_parts_168 rfl ?_
          refine k_getR (pc := 169) (r := some (8, 46, 0)) C fl_X7_120 k_in7 rfl rfl rfl dX7_parts_169 ?_
          refine k_iload_n (pc := 172) C dX7_parts_172 rfl ?_
          refine k_aload_n (pc := 173) C dX7_parts_173 rfl ?_
          refine k_getR (pc := 174) (r := some (8, 45, 0)) C fl_X7_117 k_in7 rfl rfl rfl dX7_parts_174 ?_
          refine k_iload_n (pc := 177) C dX7_parts_177 rfl ?_
          refine k_ialdX (pc := 178) (j := j) C (nI_clamp (by omega)) (by decide +kernel) rfl (vp_in_nI (show _ < (6 : Nat) by omega) (show (6 : Nat) < 2 ^ 31 by decide)) dX7_parts_178 ?_
          refine k_iastX (pc := 179) (j := j) C (nI_clamp (by omega)) (by decide +kernel) rfl (vp_in_nI (show _ < (6 : Nat) by omega) (show (6 : Nat) < 2 ^ 31 by decide)) dX7_parts_179 ?_
          refine k_iinc_3 (pc := 180) (v := nI (j + 1)) C dX7_parts_180 (k_inc j) rfl ?_
          refine k_goto (pc := 183) C 160 dX7_parts_183 (by decide) ?_
          exact k_cast rfl (by rw [f_X7_ptG_s]) rfl hk
      · skip
        exact k_vret (pc := 152) C rfl (k_fm (by unfold f_X7_ptE; rw [if_neg c141, if_neg c149]; try rfl)) dX7_parts_152
  · skip
    try dsimp only at hk
    refine k_iload_n (pc := 105) C dX7_parts_105 rfl ?_
    refine k_aload_n (pc := 106) C dX7_parts_106 rfl ?_
    refine k_getI (pc := 107) C fl_X7_129 k_in7 rfl rfl dX7_parts_107 ?_
    refine k_icmp_geF (pc := 110) C 136 dX7_parts_110 (by decide) (k_ngeC hp.1 hp.2.1 hj) ?_
    refine k_aload_n (pc := 113) C dX7_parts_113 rfl ?_
    refine k_getR (pc := 114) (r := some (8, 47, 0)) C fl_X7_123 k_in7 rfl rfl rfl dX7_parts_114 ?_
    refine k_iload_n (pc := 117) C dX7_parts_117 rfl ?_
    refine k_ialdX (pc := 118) (j := j) C (nI_clamp (by omega)) (by decide +kernel) rfl (vp_in_nI (show _ < (6 : Nat) by omega) (show (6 : Nat) < 2 ^ 31 by decide)) dX7_parts_118 ?_
    refine k_iload_n (pc := 119) C dX7_parts_119 rfl ?_
    refine k_icmp_le (pc := 120) C 130 dX7_parts_120 (by decide) (fun c120 => ?_) (fun c120 => ?_)
    · skip
      refine k_iinc_3 (pc := 130) (v := nI (j + 1)) C dX7_parts_130 (k_inc j) rfl ?_
      refine k_goto (pc := 133) C 105 dX7_parts_133 (by decide) ?_
      exact k_cast (by rw [f_X7_ptM_s, if_pos c120]) rfl rfl hk
    · skip
      refine k_aload_n (pc := 123) C dX7_parts_123 rfl ?_
      refine k_getR (pc := 124) (r := some (8, 47, 0)) C fl_X7_123 k_in7 rfl rfl rfl dX7_parts_124 ?_
      refine k_iload_n (pc := 127) C dX7_parts_127 rfl ?_
      refine k_ialdX (pc := 128) (j := j) C (nI_clamp (by omega)) (by decide +kernel) rfl (vp_in_nI (show _ < (6 : Nat) by omega) (show (6 : Nat) < 2 ^ 31 by decide)) dX7_parts_128 ?_
      refine k_istore_2 (pc := 129) C dX7_parts_129 rfl ?_
      refine k_iinc_3 (pc := 130) (v := nI (j + 1)) C dX7_parts_130 (k_inc j) rfl ?_
      refine k_goto (pc := 133) C 105 dX7_parts_133 (by decide) ?_
      exact k_cast (by rw [f_X7_ptM_s, if_neg c120]) rfl rfl hk
theorem pt_ptE {nC cm i : Nat} {mi : MemI} (h : k_pt nC cm mi) : k_pt nC cm (f_X7_ptE mi i nC cm) := by
  have hG : ∀ m, k_pt nC cm m → k_pt nC cm (f_X7_ptG m cm) := fun m hm => by
    obtain ⟨a1, a2, a3, a4, a5⟩ := hm
    exact ⟨(ptG_fr (by decide) cm 0).trans a1, a2, (ptG_fr (by decide) cm 48).trans a3, a4, fun i hi => by rw [ptG_fr (by decide)]; exact a5 i hi⟩
  unfold f_X7_ptE
  repeat' split
  all_goals first | exact h | exact hG _ (k_pt_ui h (by simp) (by simp))
def f_X7_pl (Rn : MemI → MemI) (i : Nat) (w : Int32) : Nat → Nat → MemI → MemI
  | 0, _, m0 => m0
  | u + 1, c2, m0 =>
    if (m0 (8, 12, 0) c2) = 1 then f_X7_pl Rn i w u (c2 + 1) m0
    else if ((m0 (8, 47, 0) c2) + w) ≤ (m0 (8, 8, 0) c2) then f_X7_pl Rn i w u (c2 + 1) (k_ui (Rn (k_ui (k_ui m0 (8, 45, 0) i (nI c2)) (8, 47, 0) c2 ((m0 (8, 47, 0) c2) + w))) (8, 47, 0) c2 (((Rn (k_ui (k_ui m0 (8, 45, 0) i (nI c2)) (8, 47, 0) c2 ((m0 (8, 47, 0) c2) + w))) (8, 47, 0) c2) - w))
      else f_X7_pl Rn i w u (c2 + 1) m0
theorem f_X7_pl_s (Rn : MemI → MemI) (i : Nat) (w : Int32) (u c2 : Nat) (m0 : MemI) : f_X7_pl Rn i w (u + 1) c2 m0 =
    if (m0 (8, 12, 0) c2) = 1 then f_X7_pl Rn i w u (c2 + 1) m0
    else if ((m0 (8, 47, 0) c2) + w) ≤ (m0 (8, 8, 0) c2) then f_X7_pl Rn i w u (c2 + 1) (k_ui (Rn (k_ui (k_ui m0 (8, 45, 0) i (nI c2)) (8, 47, 0) c2 ((m0 (8, 47, 0) c2) + w))) (8, 47, 0) c2 (((Rn (k_ui (k_ui m0 (8, 45, 0) i (nI c2)) (8, 47, 0) c2 ((m0 (8, 47, 0) c2) + w))) (8, 47, 0) c2) - w))
      else f_X7_pl Rn i w u (c2 + 1) m0 := rfl
theorem pt_pl {Rn : MemI → MemI} {nC cm i : Nat} {w : Int32} (hR : ∀ m, k_pt nC cm m → k_pt nC cm (Rn m)) : ∀ u c2 m0, k_pt nC cm m0 → k_pt nC cm (f_X7_pl Rn i w u c2 m0) := by
  intro u
  induction u with
  | zero => intro c2 m0 h; exact h
  | succ u ih =>
    intro c2 m0 h
    rw [f_X7_pl_s]
    repeat' split
    all_goals first | exact ih _ _ h | exact ih _ _ (k_pt_ui (hR _ (k_pt_ui (k_pt_ui h (by simp) (by simp)) (by simp) (by simp))) (by simp) (by simp))
set_option maxRecDepth 100000 in
set_option maxHeartbeats 4000000 in
theorem ct_X7_parts_1 {Rn : MemI → MemI} {nr i nC cm : Nat} {mi : MemI} {ml : MemL} (hi : i < cm) (hp0 : k_pt nC cm mi) (hRn : ∀ m, k_pt nC cm m → k_pt nC cm (Rn m)) (hR : ∀ (mi : MemI) (ml : MemL), k_pt nC cm mi → k_Ct k_KS k_R0 Mt_X7_parts nr [vR (7, 0, 0), vI (nI (i + 1))] mi ml (k_rt none (Rn mi) ml)) : k_Ct k_KS k_R0 Mt_X7_parts (nr + 1) [vR (7, 0, 0), vI (nI i)] mi ml (k_rt none (f_X7_pl Rn i (mi (8, 13, 0) ((mi (8, 44, 0) i).toNatClampNeg)) nC 0 mi) ml) := by
  refine k_ofV (L0 := [vR (7, 0, 0), vI (nI i), vU, vU]) (by decide +kernel) (Nat.le_of_ble_eq_true rfl) rfl rfl ?_
  intro p l e s m args below meth c D cy ad bs C
  have h6 := hp0.2.1
  have hc6 := hp0.2.2.2.1
  refine k_iload_n (pc := 0) C dX7_parts_0 rfl ?_
  refine k_aload_n (pc := 1) C dX7_parts_1 rfl ?_
  refine k_getI (pc := 2) C fl_X7_245 k_in7 rfl rfl dX7_parts_2 ?_
  refine k_icmp_geF (pc := 5) C 101 dX7_parts_5 (by decide) (by rw [hp0.2.2.1]; exact nI_ge hi (by omega)) ?_
  refine k_aload_n (pc := 8) C dX7_parts_8 rfl ?_
  refine k_getR (pc := 9) (r := some (8, 13, 0)) C fl_X7_41 k_in7 rfl rfl rfl dX7_parts_9 ?_
  refine k_aload_n (pc := 12) C dX7_parts_12 rfl ?_
  refine k_getR (pc := 13) (r := some (8, 44, 0)) C fl_X7_114 k_in7 rfl rfl rfl dX7_parts_13 ?_
  refine k_iload_n (pc := 16) C dX7_parts_16 rfl ?_
  refine k_ialdX (pc := 17) (j := i) C (nI_clamp (by omega)) (by decide +kernel) rfl (vp_in_nI (show _ < (6 : Nat) by omega) (show (6 : Nat) < 2 ^ 31 by decide)) dX7_parts_17 ?_
  refine k_ialdX (pc := 18) (j := (mi (8, 44, 0) i).toNatClampNeg) C rfl (by decide +kernel) rfl (hp0.2.2.2.2 i hi) dX7_parts_18 ?_
  refine k_istore_2 (pc := 19) C dX7_parts_19 rfl ?_
  refine k_iconst (pc := 20) (v := 0) C dX7_parts_20 (by decide) ?_
  refine k_istore_3 (pc := 21) C dX7_parts_21 rfl ?_
  have hloop : ∀ (u c2 : Nat) (m0 : MemI), c2 + u = nC → k_pt nC cm m0 → f_X7_pl Rn i (mi (8, 13, 0) ((mi (8, 44, 0) i).toNatClampNeg)) u c2 m0 = f_X7_pl Rn i (mi (8, 13, 0) ((mi (8, 44, 0) i).toNatClampNeg)) nC 0 mi → k_V p l e (k_rm (nr + 1)) s m args below meth c D cy ad bs k_KS k_R0 0 0 (k_End below D cy ad bs k_KS k_R0 (k_rt none (f_X7_pl Rn i (mi (8, 13, 0) ((mi (8, 44, 0) i).toNatClampNeg)) nC 0 mi) ml) args s) m0 ml 22 [vR (7, 0, 0), vI (nI i), vI (mi (8, 13, 0) ((mi (8, 44, 0) i).toNatClampNeg)), vI (nI c2)] [] := by
    intro u
    induction u with
    | zero =>
      intro c2 m0 hin hm hres
      refine k_iload_n (pc := 22) C dX7_parts_22 rfl ?_
      refine k_aload_n (pc := 23) C dX7_parts_23 rfl ?_
      refine k_getI (pc := 24) C fl_X7_129 k_in7 rfl rfl dX7_parts_24 ?_
      refine k_icmp_geT (pc := 27) C 100 dX7_parts_27 (by decide) (by rw [hm.1, show c2 = nC by omega]; exact Int32.le_refl _) ?_
      exact k_vret (pc := 100) C rfl (k_fm (by rw [← hres]; rfl)) dX7_parts_100
    | succ u ih =>
      intro c2 m0 hin hm hres
      have hc2 : c2 < nC := by omega
      refine k_iload_n (pc := 22) C dX7_parts_22 rfl ?_
      refine k_aload_n (pc := 23) C dX7_parts_23 rfl ?_
      refine k_getI (pc := 24) C fl_X7_129 k_in7 rfl rfl dX7_parts_24 ?_
      refine k_icmp_geF (pc := 27) C 100 dX7_parts_27 (by decide) (k_ngeC hm.1 h6 hc2) ?_
      refine k_aload_n (pc := 30) C dX7_parts_30 rfl ?_
      refine k_getR (pc := 31) (r := some (8, 12, 0)) C fl_X7_38 k_in7 rfl rfl rfl dX7_parts_31 ?_
      refine k_iload_n (pc := 34) C dX7_parts_34 rfl ?_
      refine k_ialdX (pc := 35) (j := c2) C (nI_clamp (by omega)) (by decide +kernel) rfl (vp_in_nI (show _ < (6 : Nat) by omega) (show (6 : Nat) < 2 ^ 31 by decide)) dX7_parts_35 ?_
      refine k_iconst (pc := 36) (v := 1) C dX7_parts_36 (by decide) ?_
      refine k_icmp_eq (pc := 37) C 94 dX7_parts_37 (by decide) (fun c37 => ?_) (fun c37 => ?_)
      · skip
        refine k_iinc_3 (pc := 94) (v := nI (c2 + 1)) C dX7_parts_94 (k_inc c2) rfl ?_
        refine k_goto (pc := 97) C 22 dX7_parts_97 (by decide) ?_
        exact ih (c2 + 1) m0 (by omega) hm (by rw [← hres, f_X7_pl_s, if_pos c37])
      · skip
        refine k_aload_n (pc := 40) C dX7_parts_40 rfl ?_
        refine k_getR (pc := 41) (r := some (8, 47, 0)) C fl_X7_123 k_in7 rfl rfl rfl dX7_parts_41 ?_
        refine k_iload_n (pc := 44) C dX7_parts_44 rfl ?_
        refine k_ialdX (pc := 45) (j := c2) C (nI_clamp (by omega)) (by decide +kernel) rfl (vp_in_nI (show _ < (6 : Nat) by omega) (show (6 : Nat) < 2 ^ 31 by decide)) dX7_parts_45 ?_
        refine k_iload_n (pc := 46) C dX7_parts_46 rfl ?_
        refine k_iadd (pc := 47) C dX7_parts_47 ?_
        refine k_aload_n (pc := 48) C dX7_parts_48 rfl ?_
        refine k_getR (pc := 49) (r := some (8, 8, 0)) C fl_X7_26 k_in7 rfl rfl rfl dX7_parts_49 ?_
        refine k_iload_n (pc := 52) C dX7_parts_52 rfl ?_
        refine k_ialdX (pc := 53) (j := c2) C (nI_clamp (by omega)) (by decide +kernel) rfl (vp_in_nI (show _ < (6 : Nat) by omega) (show (6 : Nat) < 2 ^ 31 by decide)) dX7_parts_53 ?_
        refine k_icmp_le (pc := 54) C 60 dX7_parts_54 (by decide) (fun c54 => ?_) (fun c54 => ?_)
        · skip
          refine k_aload_n (pc := 60) C dX7_parts_60 rfl ?_
          refine k_getR (pc := 61) (r := some (8, 45, 0)) C fl_X7_117 k_in7 rfl rfl rfl dX7_parts_61 ?_
          refine k_iload_n (pc := 64) C dX7_parts_64 rfl ?_
          refine k_iload_n (pc := 65) C dX7_parts_65 rfl ?_
          refine k_iastX (pc := 66) (j := i) C (nI_clamp (by omega)) (by decide +kernel) rfl (vp_in_nI (show _ < (6 : Nat) by omega) (show (6 : Nat) < 2 ^ 31 by decide)) dX7_parts_66 ?_
          refine k_aload_n (pc := 67) C dX7_parts_67 rfl ?_
          refine k_getR (pc := 68) (r := some (8, 47, 0)) C fl_X7_123 k_in7 rfl rfl rfl dX7_parts_68 ?_
          refine k_iload_n (pc := 71) C dX7_parts_71 rfl ?_
          refine k_dup2 (pc := 72) C dX7_parts_72 rfl rfl ?_
          refine k_ialdX (pc := 73) (j := c2) C (nI_clamp (by omega)) (by decide +kernel) rfl (vp_in_nI (show _ < (6 : Nat) by omega) (show (6 : Nat) < 2 ^ 31 by decide)) dX7_parts_73 ?_
          refine k_sx (x := m0 (8, 47, 0) c2) (k_uk (by decide)) ?_
          refine k_iload_n (pc := 74) C dX7_parts_74 rfl ?_
          refine k_iadd (pc := 75) C dX7_parts_75 ?_
          refine k_iastX (pc := 76) (j := c2) C (nI_clamp (by omega)) (by decide +kernel) rfl (vp_in_nI (show _ < (6 : Nat) by omega) (show (6 : Nat) < 2 ^ 31 by decide)) dX7_parts_76 ?_
          refine k_aload_n (pc := 77) C dX7_parts_77 rfl ?_
          refine k_iload_n (pc := 78) C dX7_parts_78 rfl ?_
          refine k_iconst (pc := 79) (v := 1) C dX7_parts_79 (by decide) ?_
          refine k_iadd (pc := 80) C dX7_parts_80 ?_
          have hm2 : k_pt nC cm (k_ui (k_ui m0 (8, 45, 0) i (nI c2)) (8, 47, 0) c2 ((m0 (8, 47, 0) c2) + (mi (8, 13, 0) ((mi (8, 44, 0) i).toNatClampNeg)))) := k_pt_ui (k_pt_ui hm (by simp) (by simp)) (by simp) (by simp)
          have hm4 : ∀ v, k_pt nC cm (k_ui (Rn (k_ui (k_ui m0 (8, 45, 0) i (nI c2)) (8, 47, 0) c2 ((m0 (8, 47, 0) c2) + (mi (8, 13, 0) ((mi (8, 44, 0) i).toNatClampNeg))))) (8, 47, 0) c2 v) := fun v => k_pt_ui (hRn _ hm2) (by simp) (by simp)
          refine k_castS (st' := [vI (nI (i + 1)), vR (7, 0, 0)]) (by rw [nI_1]) ?_
          refine k_callv1 (pc := 81) C cv_X7_248 (hR _ _ hm2) k_in7 rfl (by omega) rfl (Nat.le_of_ble_eq_true rfl) dX7_parts_81 ?_
          refine k_aload_n (pc := 84) C dX7_parts_84 rfl ?_
          refine k_getR (pc := 85) (r := some (8, 47, 0)) C fl_X7_123 k_in7 rfl rfl rfl dX7_parts_85 ?_
          refine k_iload_n (pc := 88) C dX7_parts_88 rfl ?_
          refine k_dup2 (pc := 89) C dX7_parts_89 rfl rfl ?_
          refine k_ialdX (pc := 90) (j := c2) C (nI_clamp (by omega)) (by decide +kernel) rfl (vp_in_nI (show _ < (6 : Nat) by omega) (show (6 : Nat) < 2 ^ 31 by decide)) dX7_parts_90 ?_
          refine k_iload_n (pc := 91) C dX7_parts_91 rfl ?_
          refine k_isub (pc := 92) C dX7_parts_92 ?_
          refine k_iastX (pc := 93) (j := c2) C (nI_clamp (by omega)) (by decide +kernel) rfl (vp_in_nI (show _ < (6 : Nat) by omega) (show (6 : Nat) < 2 ^ 31 by decide)) dX7_parts_93 ?_
          refine k_iinc_3 (pc := 94) (v := nI (c2 + 1)) C dX7_parts_94 (k_inc c2) rfl ?_
          refine k_goto (pc := 97) C 22 dX7_parts_97 (by decide) ?_
          exact ih (c2 + 1) (k_ui (Rn (k_ui (k_ui m0 (8, 45, 0) i (nI c2)) (8, 47, 0) c2 ((m0 (8, 47, 0) c2) + (mi (8, 13, 0) ((mi (8, 44, 0) i).toNatClampNeg))))) (8, 47, 0) c2 (((Rn (k_ui (k_ui m0 (8, 45, 0) i (nI c2)) (8, 47, 0) c2 ((m0 (8, 47, 0) c2) + (mi (8, 13, 0) ((mi (8, 44, 0) i).toNatClampNeg))))) (8, 47, 0) c2) - (mi (8, 13, 0) ((mi (8, 44, 0) i).toNatClampNeg)))) (by omega) (hm4 _) (by rw [← hres, f_X7_pl_s, if_neg c37, if_pos c54])
        · skip
          refine k_goto (pc := 57) C 94 dX7_parts_57 (by decide) ?_
          refine k_iinc_3 (pc := 94) (v := nI (c2 + 1)) C dX7_parts_94 (k_inc c2) rfl ?_
          refine k_goto (pc := 97) C 22 dX7_parts_97 (by decide) ?_
          exact ih (c2 + 1) m0 (by omega) hm (by rw [← hres, f_X7_pl_s, if_neg c37, if_neg c54])
  exact hloop nC 0 mi (by omega) hp0 rfl
def f_X7_pt (nC cm : Nat) : Nat → Nat → MemI → MemI
  | 0, i, m => f_X7_ptE m i nC cm
  | n + 1, i, m => f_X7_pl (f_X7_pt nC cm n (i + 1)) i (m (8, 13, 0) ((m (8, 44, 0) i).toNatClampNeg)) nC 0 m
theorem pt_pt {nC cm : Nat} : ∀ n i m, k_pt nC cm m → k_pt nC cm (f_X7_pt nC cm n i m) := by
  intro n
  induction n with
  | zero => intro i m h; exact pt_ptE h
  | succ n ih => intro i m h; exact pt_pl (fun m hm => ih (i + 1) m hm) nC 0 m h
theorem ct_X7_parts {nC cm : Nat} : ∀ (n i : Nat) {mi : MemI} {ml : MemL}, i + n = cm → k_pt nC cm mi → k_Ct k_KS k_R0 Mt_X7_parts n [vR (7, 0, 0), vI (nI i)] mi ml (k_rt none (f_X7_pt nC cm n i mi) ml) := by
  intro n
  induction n with
  | zero => intro i mi ml hi hp; exact ct_X7_parts_0 hp (by omega) (by have := hp.2.2.2.1; omega)
  | succ n ih => intro i mi ml hi hp; exact ct_X7_parts_1 (by omega) hp (fun m hm => pt_pt n (i + 1) m hm) (fun mi ml hm => ih (i + 1) (by omega) hm)
theorem k_vx {x : Int32} {n : Nat} (h6 : n ≤ 6) (h0 : ¬ x < -1) (h1 : x < nI n) (h2 : ¬ x = -1) : vp_in x n := by
  have a : ¬ x < 0 := fun q => by
    have b := (not_congr Int32.lt_iff_toInt_lt).mp h0
    have c := Int32.lt_iff_toInt_lt.mp q
    have e1 : (-1 : Int32).toInt = -1 := rfl
    have e2 : (0 : Int32).toInt = 0 := rfl
    exact h2 (Int32.toInt_inj.mp (by omega))
  obtain ⟨j, hj, rfl⟩ := nI_of a
  by_cases hn : n ≤ j
  · exact absurd h1 (nI_nlt hn hj)
  · exact vp_in_nI (by omega) (by omega)
def f_X7_paL (mi : MemI) : Nat → MemI
  | 0 => mi
  | j + 1 =>
    k_ui (f_X7_paL mi j) (8, 47, 0) j 0
theorem f_X7_paL_s (mi : MemI) (j : Nat) : f_X7_paL mi (j + 1) =
    k_ui (f_X7_paL mi j) (8, 47, 0) j 0 := rfl
theorem pt_paL {nC cm : Nat} {mi : MemI} (h : k_pt nC cm mi) : ∀ j, k_pt nC cm (f_X7_paL mi j) := by
  intro j
  induction j with
  | zero => exact h
  | succ j ih => exact k_pt_ui ih (by simp) (by simp)
def f_X7_parting (mi : MemI) (x : Int32) (nC : Nat) (nB : Nat) : Int32 × MemI :=
  if x < (-1) then ((f_X7_noTen (f_X7_files mi nB) (-5)).1, (f_X7_noTen (f_X7_files mi nB) (-5)).2)
  else if x < (nI (f_X7_fc mi nB)) then if x = (-1) then ((f_X7_pt nC (f_X7_fc mi nB) (f_X7_fc mi nB) 0 (f_X7_paL (k_ui (f_X7_files mi nB) (7, 0, 0) 49 (-1)) 6)) (7, 0, 0) 49, f_X7_pt nC (f_X7_fc mi nB) (f_X7_fc mi nB) 0 (f_X7_paL (k_ui (f_X7_files mi nB) (7, 0, 0) 49 (-1)) 6))
      else if ((f_X7_pt nC (f_X7_fc mi nB) (f_X7_fc mi nB) 0 (f_X7_paL (k_ui (f_X7_files mi nB) (7, 0, 0) 49 (-1)) 6)) (7, 0, 0) 49) = (-1) then ((f_X7_pt nC (f_X7_fc mi nB) (f_X7_fc mi nB) 0 (f_X7_paL (k_ui (f_X7_files mi nB) (7, 0, 0) 49 (-1)) 6)) (7, 0, 0) 49, f_X7_pt nC (f_X7_fc mi nB) (f_X7_fc mi nB) 0 (f_X7_paL (k_ui (f_X7_files mi nB) (7, 0, 0) 49 (-1)) 6))
        else ((f_X7_pt nC (f_X7_fc mi nB) (f_X7_fc mi nB) 0 (f_X7_paL (k_ui (f_X7_files mi nB) (7, 0, 0) 49 (-1)) 6)) (8, 46, 0) x.toNatClampNeg, f_X7_pt nC (f_X7_fc mi nB) (f_X7_fc mi nB) 0 (f_X7_paL (k_ui (f_X7_files mi nB) (7, 0, 0) 49 (-1)) 6))
    else ((f_X7_noTen (f_X7_files mi nB) (-5)).1, (f_X7_noTen (f_X7_files mi nB) (-5)).2)
set_option maxRecDepth 100000 in
set_option maxHeartbeats 4000000 in
theorem ct_X7_parting {mi : MemI} {ml : MemL} {x : Int32} {nC : Nat} {nB : Nat} (hm : k_mo nC nB mi) : k_Ct k_KS k_R0 Mt_X7_parting 7 [vR (7, 0, 0), vI x] mi ml (k_rt (some (vI (f_X7_parting mi x nC nB).1)) (f_X7_parting mi x nC nB).2 ml) := by
  refine k_ofV (L0 := [vR (7, 0, 0), vI x, vU]) (by decide +kernel) (Nat.le_of_ble_eq_true rfl) rfl rfl ?_
  intro p l e s m args below meth c D cy ad bs C
  have hC := hm.1
  have h6 := hm.2.1
  have hB := hm.2.2.1
  have h6b := hm.2.2.2.1
  have hp := pt_files hm
  have hc6 := hp.2.2.2.1
  refine k_aload_n (pc := 0) C dX7_parting_0 rfl ?_
  refine k_callv0 (pc := 1) C cv_X7_255 (ct_X7_files hm) k_in7 rfl (by omega) rfl (Nat.le_of_ble_eq_true rfl) dX7_parting_1 ?_
  refine k_iload_n (pc := 4) C dX7_parting_4 rfl ?_
  refine k_iconst (pc := 5) (v := (-1)) C dX7_parting_5 (by decide) ?_
  refine k_icmp_lt (pc := 6) C 17 dX7_parting_6 (by decide) (fun c6 => ?_) (fun c6 => ?_)
  · skip
    refine k_aload_n (pc := 17) C dX7_parting_17 rfl ?_
    refine k_bipush (pc := 18) (v := (-5)) C dX7_parting_18 (by decide) ?_
    refine k_call1 (pc := 20) C cv_X7_164 (ct_X7_noTen (k_vd (by decide))) k_in7 rfl (by omega) rfl (Nat.le_of_ble_eq_true rfl) dX7_parting_20 ?_
    exact k_iret (pc := 23) C rfl  (k_fIm (by unfold f_X7_parting; rw [if_pos c6]; try rfl)) dX7_parting_23
  · skip
    refine k_iload_n (pc := 9) C dX7_parting_9 rfl ?_
    refine k_aload_n (pc := 10) C dX7_parting_10 rfl ?_
    refine k_getI (pc := 11) C fl_X7_245 k_in7 rfl rfl dX7_parting_11 ?_
    refine k_sx (x := nI (f_X7_fc mi nB)) (files_c) ?_
    refine k_icmp_lt (pc := 14) C 24 dX7_parting_14 (by decide) (fun c14 => ?_) (fun c14 => ?_)
    · skip
      refine k_aload_n (pc := 24) C dX7_parting_24 rfl ?_
      refine k_iconst (pc := 25) (v := (-1)) C dX7_parting_25 (by decide) ?_
      refine k_putI (pc := 26) C pl_X7_252 k_in7 rfl rfl dX7_parting_26 ?_
      refine k_iconst (pc := 29) (v := 0) C dX7_parting_29 (by decide) ?_
      refine k_istore_2 (pc := 30) C dX7_parting_30 rfl ?_
      refine k_cast (L' := [vR (7, 0, 0), vI x, vI (nI 0)]) (mi' := f_X7_paL (k_ui (f_X7_files mi nB) (7, 0, 0) 49 (-1)) 0) (ml' := ml) rfl rfl rfl ?_
      refine k_down (P := fun j => k_V p l e (k_rm 7) s m args below meth c D cy ad bs k_KS k_R0 0 0 (k_End below D cy ad bs k_KS k_R0 (k_rt (some (vI (f_X7_parting mi x nC nB).1)) (f_X7_parting mi x nC nB).2 ml) args s) (f_X7_paL (k_ui (f_X7_files mi nB) (7, 0, 0) 49 (-1)) j) ml 31 [vR (7, 0, 0), vI x, vI (nI j)] []) 6 ?_ (fun j hj hk => ?_)
      · skip
        refine k_iload_n (pc := 31) C dX7_parting_31 rfl ?_
        refine k_bipush (pc := 32) (v := 6) C dX7_parting_32 (by decide) ?_
        refine k_icmp_geT (pc := 34) C 50 dX7_parting_34 (by decide) (by decide) ?_
        refine k_aload_n (pc := 50) C dX7_parting_50 rfl ?_
        refine k_iconst (pc := 51) (v := 0) C dX7_parting_51 (by decide) ?_
        refine k_callv1 (pc := 52) C cv_X7_248 (ct_X7_parts (nC := nC) (f_X7_fc mi nB) 0 (Nat.zero_add _) (pt_paL (k_pt_ui hp (by simp) (by simp)) 6)) k_in7 rfl (by omega) rfl (Nat.le_of_ble_eq_true rfl) dX7_parting_52 ?_
        refine k_iload_n (pc := 55) C dX7_parting_55 rfl ?_
        refine k_iconst (pc := 56) (v := (-1)) C dX7_parting_56 (by decide) ?_
        refine k_icmp_eq (pc := 57) C 68 dX7_parting_57 (by decide) (fun c57 => ?_) (fun c57 => ?_)
        · skip
          refine k_aload_n (pc := 68) C dX7_parting_68 rfl ?_
          refine k_getI (pc := 69) C fl_X7_252 k_in7 rfl rfl dX7_parting_69 ?_
          refine k_goto (pc := 72) C 81 dX7_parting_72 (by decide) ?_
          exact k_iret (pc := 81) C rfl  (k_fIm (by unfold f_X7_parting; rw [if_neg c6, if_pos c14, if_pos c57]; try rfl)) dX7_parting_81
        · skip
          refine k_aload_n (pc := 60) C dX7_parting_60 rfl ?_
          refine k_getI (pc := 61) C fl_X7_252 k_in7 rfl rfl dX7_parting_61 ?_
          refine k_iconst (pc := 64) (v := (-1)) C dX7_parting_64 (by decide) ?_
          refine k_icmp_ne (pc := 65) C 75 dX7_parting_65 (by decide) (fun c65 => ?_) (fun c65 => ?_)
          · skip
            refine k_aload_n (pc := 75) C dX7_parting_75 rfl ?_
            refine k_getR (pc := 76) (r := some (8, 46, 0)) C fl_X7_120 k_in7 rfl rfl rfl dX7_parting_76 ?_
            refine k_iload_n (pc := 79) C dX7_parting_79 rfl ?_
            refine k_ialdX (pc := 80) (j := x.toNatClampNeg) C rfl (by decide +kernel) rfl (vp_mono (k_vx (n := f_X7_fc mi nB) hc6 (by assumption) (by assumption) (by assumption)) (Nat.le_trans (fc_le mi nB) h6b)) dX7_parting_80 ?_
            exact k_iret (pc := 81) C rfl  (k_fIm (by unfold f_X7_parting; rw [if_neg c6, if_pos c14, if_neg c57, if_neg c65]; try rfl)) dX7_parting_81
          · skip
            refine k_aload_n (pc := 68) C dX7_parting_68 rfl ?_
            refine k_getI (pc := 69) C fl_X7_252 k_in7 rfl rfl dX7_parting_69 ?_
            refine k_goto (pc := 72) C 81 dX7_parting_72 (by decide) ?_
            exact k_iret (pc := 81) C rfl  (k_fIm (by unfold f_X7_parting; rw [if_neg c6, if_pos c14, if_neg c57, if_pos c65]; try rfl)) dX7_parting_81
      · skip
        try dsimp only at hk
        refine k_iload_n (pc := 31) C dX7_parting_31 rfl ?_
        refine k_bipush (pc := 32) (v := 6) C dX7_parting_32 (by decide) ?_
        refine k_icmp_geF (pc := 34) C 50 dX7_parting_34 (by decide) (k_nge (n := 6) rfl (by decide) hj) ?_
        refine k_aload_n (pc := 37) C dX7_parting_37 rfl ?_
        refine k_getR (pc := 38) (r := some (8, 47, 0)) C fl_X7_123 k_in7 rfl rfl rfl dX7_parting_38 ?_
        refine k_iload_n (pc := 41) C dX7_parting_41 rfl ?_
        refine k_iconst (pc := 42) (v := 0) C dX7_parting_42 (by decide) ?_
        refine k_iastX (pc := 43) (j := j) C (nI_clamp (by omega)) (by decide +kernel) rfl (vp_in_nI (show _ < (6 : Nat) by omega) (show (6 : Nat) < 2 ^ 31 by decide)) dX7_parting_43 ?_
        refine k_iinc_2 (pc := 44) (v := nI (j + 1)) C dX7_parting_44 (k_inc j) rfl ?_
        refine k_goto (pc := 47) C 31 dX7_parting_47 (by decide) ?_
        exact k_cast rfl (by rw [f_X7_paL_s]) rfl hk
    · skip
      refine k_aload_n (pc := 17) C dX7_parting_17 rfl ?_
      refine k_bipush (pc := 18) (v := (-5)) C dX7_parting_18 (by decide) ?_
      refine k_call1 (pc := 20) C cv_X7_164 (ct_X7_noTen (k_vd (by decide))) k_in7 rfl (by omega) rfl (Nat.le_of_ble_eq_true rfl) dX7_parting_20 ?_
      exact k_iret (pc := 23) C rfl  (k_fIm (by unfold f_X7_parting; rw [if_neg c6, if_neg c14]; try rfl)) dX7_parting_23
