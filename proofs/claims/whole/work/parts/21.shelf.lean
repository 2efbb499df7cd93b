/-! Shelf -/
def k_zr (ml : MemL) (k : Ky) (n : Nat) : MemL := fun k' j => if k' = k ∧ j < n then 0 else ml k' j
theorem k_zr_s (ml : MemL) (k : Ky) (n : Nat) : k_ul (k_zr ml k n) k n 0 = k_zr ml k (n + 1) := by
  funext k' j
  simp only [k_ul, k_zr]
  by_cases h : k' = k
  · subst h
    by_cases h2 : j = n
    · subst h2; simp
    · have : (j < n + 1) ↔ (j < n) := by omega
      simp [h2, this]
  · simp [h]
theorem k_zr_0 (ml : MemL) (k : Ky) : k_zr ml k 0 = ml := by
  funext k' j
  simp [k_zr]
def f_X5_hasRow (mi : MemI) (i : Nat) : Int32 :=
  if (mi (5, 0, i) 1) = (-1) then 0
  else 1
theorem z_X5_hasRow {mi : MemI} {i : Nat}  : (f_X5_hasRow mi i) = 0 ∨ (f_X5_hasRow mi i) = 1 := by
  unfold f_X5_hasRow
  by_cases zh1 : (mi (5, 0, i) 1) = (-1)
  · rw [if_pos zh1]
    exact (Or.inl rfl)
  · rw [if_neg zh1]
    exact (Or.inr rfl)
set_option maxRecDepth 100000 in
set_option maxHeartbeats 4000000 in
theorem ct_X5_hasRow {mi : MemI} {ml : MemL} {i : Nat} (hi : i < 8) : k_Ct k_KS k_R0 Mt_X5_hasRow 0 [vR (5, 0, i)] mi ml (k_rt (some (vI (f_X5_hasRow mi i))) mi ml) := by
  refine k_ofV (L0 := [vR (5, 0, i)]) (by decide +kernel) (Nat.le_of_ble_eq_true rfl) rfl rfl ?_
  intro p l e s m args below meth c D cy ad bs C
  refine k_aload_n (pc := 0) C dX5_hasRow_0 rfl ?_
  refine k_getI (pc := 1) C fl_X5_15 (k_in5 hi) rfl rfl dX5_hasRow_1 ?_
  refine k_iconst (pc := 4) (v := (-1)) C dX5_hasRow_4 (by decide) ?_
  refine k_icmp_eq (pc := 5) C 12 dX5_hasRow_5 (by decide) (fun c5 => ?_) (fun c5 => ?_)
  · skip
    refine k_iconst (pc := 12) (v := 0) C dX5_hasRow_12 (by decide) ?_
    exact k_zret (pc := 13) C rfl (Or.inl rfl) (k_fI (by unfold f_X5_hasRow; rw [if_pos c5]; try rfl)) dX5_hasRow_13
  · skip
    refine k_iconst (pc := 8) (v := 1) C dX5_hasRow_8 (by decide) ?_
    refine k_goto (pc := 9) C 13 dX5_hasRow_9 (by decide) ?_
    exact k_zret (pc := 13) C rfl (Or.inr rfl) (k_fI (by unfold f_X5_hasRow; rw [if_neg c5]; try rfl)) dX5_hasRow_13
def f_X5_hasCitizen (mi : MemI) (i : Nat) : Int32 :=
  if (mi (5, 0, i) 3) = (-1) then 0
  else 1
theorem z_X5_hasCitizen {mi : MemI} {i : Nat}  : (f_X5_hasCitizen mi i) = 0 ∨ (f_X5_hasCitizen mi i) = 1 := by
  unfold f_X5_hasCitizen
  by_cases zh1 : (mi (5, 0, i) 3) = (-1)
  · rw [if_pos zh1]
    exact (Or.inl rfl)
  · rw [if_neg zh1]
    exact (Or.inr rfl)
set_option maxRecDepth 100000 in
set_option maxHeartbeats 4000000 in
theorem ct_X5_hasCitizen {mi : MemI} {ml : MemL} {i : Nat} (hi : i < 8) : k_Ct k_KS k_R0 Mt_X5_hasCitizen 0 [vR (5, 0, i)] mi ml (k_rt (some (vI (f_X5_hasCitizen mi i))) mi ml) := by
  refine k_ofV (L0 := [vR (5, 0, i)]) (by decide +kernel) (Nat.le_of_ble_eq_true rfl) rfl rfl ?_
  intro p l e s m args below meth c D cy ad bs C
  refine k_aload_n (pc := 0) C dX5_hasCitizen_0 rfl ?_
  refine k_getI (pc := 1) C fl_X5_19 (k_in5 hi) rfl rfl dX5_hasCitizen_1 ?_
  refine k_iconst (pc := 4) (v := (-1)) C dX5_hasCitizen_4 (by decide) ?_
  refine k_icmp_eq (pc := 5) C 12 dX5_hasCitizen_5 (by decide) (fun c5 => ?_) (fun c5 => ?_)
  · skip
    refine k_iconst (pc := 12) (v := 0) C dX5_hasCitizen_12 (by decide) ?_
    exact k_zret (pc := 13) C rfl (Or.inl rfl) (k_fI (by unfold f_X5_hasCitizen; rw [if_pos c5]; try rfl)) dX5_hasCitizen_13
  · skip
    refine k_iconst (pc := 8) (v := 1) C dX5_hasCitizen_8 (by decide) ?_
    refine k_goto (pc := 9) C 13 dX5_hasCitizen_9 (by decide) ?_
    exact k_zret (pc := 13) C rfl (Or.inr rfl) (k_fI (by unfold f_X5_hasCitizen; rw [if_neg c5]; try rfl)) dX5_hasCitizen_13
def f_X5_differsInSort (mi : MemI) (i : Nat) (i2 : Nat) : Int32 :=
  if (f_X5_hasRow mi i) = 0 then 0
  else if (f_X5_hasRow mi i2) = 0 then 0
    else if (mi (5, 0, i) 1) = (mi (5, 0, i2) 1) then 0
      else 1
theorem z_X5_differsInSort {mi : MemI} {i : Nat} {i2 : Nat}  : (f_X5_differsInSort mi i i2) = 0 ∨ (f_X5_differsInSort mi i i2) = 1 := by
  unfold f_X5_differsInSort
  by_cases zh1 : (f_X5_hasRow mi i) = 0
  · rw [if_pos zh1]
    exact (Or.inl rfl)
  · rw [if_neg zh1]
    by_cases zh2 : (f_X5_hasRow mi i2) = 0
    · rw [if_pos zh2]
      exact (Or.inl rfl)
    · rw [if_neg zh2]
      by_cases zh3 : (mi (5, 0, i) 1) = (mi (5, 0, i2) 1)
      · rw [if_pos zh3]
        exact (Or.inl rfl)
      · rw [if_neg zh3]
        exact (Or.inr rfl)
set_option maxRecDepth 100000 in
set_option maxHeartbeats 4000000 in
theorem ct_X5_differsInSort {mi : MemI} {ml : MemL} {i : Nat} {i2 : Nat} (hi : i < 8) (hi2 : i2 < 8) : k_Ct k_KS k_R0 Mt_X5_differsInSort 1 [vR (5, 0, i), vR (5, 0, i2)] mi ml (k_rt (some (vI (f_X5_differsInSort mi i i2))) mi ml) := by
  refine k_ofV (L0 := [vR (5, 0, i), vR (5, 0, i2)]) (by decide +kernel) (Nat.le_of_ble_eq_true rfl) rfl rfl ?_
  intro p l e s m args below meth c D cy ad bs C
  refine k_aload_n (pc := 0) C dX5_differsInSort_0 rfl ?_
  refine k_call0 (pc := 1) C cv_X5_34 (ct_X5_hasRow hi) (k_in5 hi) rfl (by decide) rfl (Nat.le_of_ble_eq_true rfl) dX5_differsInSort_1 ?_
  refine k_if_eq (pc := 4) C 29 dX5_differsInSort_4 (by decide) (fun c4 => ?_) (fun c4 => ?_)
  · skip
    refine k_iconst (pc := 29) (v := 0) C dX5_differsInSort_29 (by decide) ?_
    exact k_zret (pc := 30) C rfl (Or.inl rfl) (k_fI (by unfold f_X5_differsInSort; rw [if_pos c4]; try rfl)) dX5_differsInSort_30
  · skip
    refine k_aload_n (pc := 7) C dX5_differsInSort_7 rfl ?_
    refine k_call0 (pc := 8) C cv_X5_34 (ct_X5_hasRow hi2) (k_in5 hi2) rfl (by decide) rfl (Nat.le_of_ble_eq_true rfl) dX5_differsInSort_8 ?_
    refine k_if_eq (pc := 11) C 29 dX5_differsInSort_11 (by decide) (fun c11 => ?_) (fun c11 => ?_)
    · skip
      refine k_iconst (pc := 29) (v := 0) C dX5_differsInSort_29 (by decide) ?_
      exact k_zret (pc := 30) C rfl (Or.inl rfl) (k_fI (by unfold f_X5_differsInSort; rw [if_neg c4, if_pos c11]; try rfl)) dX5_differsInSort_30
    · skip
      refine k_aload_n (pc := 14) C dX5_differsInSort_14 rfl ?_
      refine k_getI (pc := 15) C fl_X5_15 (k_in5 hi) rfl rfl dX5_differsInSort_15 ?_
      refine k_aload_n (pc := 18) C dX5_differsInSort_18 rfl ?_
      refine k_getI (pc := 19) C fl_X5_15 (k_in5 hi2) rfl rfl dX5_differsInSort_19 ?_
      refine k_icmp_eq (pc := 22) C 29 dX5_differsInSort_22 (by decide) (fun c22 => ?_) (fun c22 => ?_)
      · skip
        refine k_iconst (pc := 29) (v := 0) C dX5_differsInSort_29 (by decide) ?_
        exact k_zret (pc := 30) C rfl (Or.inl rfl) (k_fI (by unfold f_X5_differsInSort; rw [if_neg c4, if_neg c11, if_pos c22]; try rfl)) dX5_differsInSort_30
      · skip
        refine k_iconst (pc := 25) (v := 1) C dX5_differsInSort_25 (by decide) ?_
        refine k_goto (pc := 26) C 30 dX5_differsInSort_26 (by decide) ?_
        exact k_zret (pc := 30) C rfl (Or.inr rfl) (k_fI (by unfold f_X5_differsInSort; rw [if_neg c4, if_neg c11, if_neg c22]; try rfl)) dX5_differsInSort_30
def f_X5_takeCitizen (mi : MemI) (i : Nat) (v : Int32) : MemI :=
  (k_ui (k_ui (k_ui mi (5, 0, i) 1 (-1)) (5, 0, i) 2 0) (5, 0, i) 3 v)
set_option maxRecDepth 100000 in
set_option maxHeartbeats 4000000 in
theorem ct_X5_takeCitizen {mi : MemI} {ml : MemL} {i : Nat} {v : Int32} (hi : i < 8) : k_Ct k_KS k_R0 Mt_X5_takeCitizen 0 [vR (5, 0, i), vI v] mi ml (k_rt none (f_X5_takeCitizen mi i v) ml) := by
  refine k_ofV (L0 := [vR (5, 0, i), vI v]) (by decide +kernel) (Nat.le_of_ble_eq_true rfl) rfl rfl ?_
  intro p l e s m args below meth c D cy ad bs C
  refine k_aload_n (pc := 0) C dX5_takeCitizen_0 rfl ?_
  refine k_iconst (pc := 1) (v := (-1)) C dX5_takeCitizen_1 (by decide) ?_
  refine k_putI (pc := 2) C pl_X5_15 (k_in5 hi) rfl rfl dX5_takeCitizen_2 ?_
  refine k_aload_n (pc := 5) C dX5_takeCitizen_5 rfl ?_
  refine k_iconst (pc := 6) (v := 0) C dX5_takeCitizen_6 (by decide) ?_
  refine k_putI (pc := 7) C pl_X5_31 (k_in5 hi) rfl rfl dX5_takeCitizen_7 ?_
  refine k_aload_n (pc := 10) C dX5_takeCitizen_10 rfl ?_
  refine k_iload_n (pc := 11) C dX5_takeCitizen_11 rfl ?_
  refine k_putI (pc := 12) C pl_X5_19 (k_in5 hi) rfl rfl dX5_takeCitizen_12 ?_
  exact k_vret (pc := 15) C rfl (k_fm rfl) dX5_takeCitizen_15
def f_X5_hasElement (mi : MemI) (i : Nat) (x : Int32) : Int32 :=
  if x < 0 then 0
  else if (mi (5, 0, i) 2) ≤ x then 0
    else if 160 ≤ x then 0
      else 1
theorem z_X5_hasElement {mi : MemI} {i : Nat} {x : Int32}  : (f_X5_hasElement mi i x) = 0 ∨ (f_X5_hasElement mi i x) = 1 := by
  unfold f_X5_hasElement
  by_cases zh1 : x < 0
  · rw [if_pos zh1]
    exact (Or.inl rfl)
  · rw [if_neg zh1]
    by_cases zh2 : (mi (5, 0, i) 2) ≤ x
    · rw [if_pos zh2]
      exact (Or.inl rfl)
    · rw [if_neg zh2]
      by_cases zh3 : 160 ≤ x
      · rw [if_pos zh3]
        exact (Or.inl rfl)
      · rw [if_neg zh3]
        exact (Or.inr rfl)
set_option maxRecDepth 100000 in
set_option maxHeartbeats 4000000 in
theorem ct_X5_hasElement {mi : MemI} {ml : MemL} {i : Nat} {x : Int32} (hi : i < 8) : k_Ct k_KS k_R0 Mt_X5_hasElement 0 [vR (5, 0, i), vI x] mi ml (k_rt (some (vI (f_X5_hasElement mi i x))) mi ml) := by
  refine k_ofV (L0 := [vR (5, 0, i), vI x]) (by decide +kernel) (Nat.le_of_ble_eq_true rfl) rfl rfl ?_
  intro p l e s m args below meth c D cy ad bs C
  refine k_iload_n (pc := 0) C dX5_hasElement_0 rfl ?_
  refine k_if_lt (pc := 1) C 25 dX5_hasElement_1 (by decide) (fun c1 => ?_) (fun c1 => ?_)
  · skip
    refine k_iconst (pc := 25) (v := 0) C dX5_hasElement_25 (by decide) ?_
    exact k_zret (pc := 26) C rfl (Or.inl rfl) (k_fI (by unfold f_X5_hasElement; rw [if_pos c1]; try rfl)) dX5_hasElement_26
  · skip
    refine k_iload_n (pc := 4) C dX5_hasElement_4 rfl ?_
    refine k_aload_n (pc := 5) C dX5_hasElement_5 rfl ?_
    refine k_getI (pc := 6) C fl_X5_31 (k_in5 hi) rfl rfl dX5_hasElement_6 ?_
    refine k_icmp_ge (pc := 9) C 25 dX5_hasElement_9 (by decide) (fun c9 => ?_) (fun c9 => ?_)
    · skip
      refine k_iconst (pc := 25) (v := 0) C dX5_hasElement_25 (by decide) ?_
      exact k_zret (pc := 26) C rfl (Or.inl rfl) (k_fI (by unfold f_X5_hasElement; rw [if_neg c1, if_pos c9]; try rfl)) dX5_hasElement_26
    · skip
      refine k_iload_n (pc := 12) C dX5_hasElement_12 rfl ?_
      refine k_aload_n (pc := 13) C dX5_hasElement_13 rfl ?_
      refine k_getR (pc := 14) (r := some (9, 0, i)) C fl_X5_9 (k_in5 hi) rfl rfl rfl dX5_hasElement_14 ?_
      refine k_alen (pc := 17) (v := 160) C (k_in9 hi) ⟨Nat.le_of_ble_eq_true rfl, Nat.le_of_ble_eq_true rfl⟩ rfl dX5_hasElement_17 ?_
      refine k_icmp_ge (pc := 18) C 25 dX5_hasElement_18 (by decide) (fun c18 => ?_) (fun c18 => ?_)
      · skip
        refine k_iconst (pc := 25) (v := 0) C dX5_hasElement_25 (by decide) ?_
        exact k_zret (pc := 26) C rfl (Or.inl rfl) (k_fI (by unfold f_X5_hasElement; rw [if_neg c1, if_neg c9, if_pos c18]; try rfl)) dX5_hasElement_26
      · skip
        refine k_iconst (pc := 21) (v := 1) C dX5_hasElement_21 (by decide) ?_
        refine k_goto (pc := 22) C 26 dX5_hasElement_22 (by decide) ?_
        exact k_zret (pc := 26) C rfl (Or.inr rfl) (k_fI (by unfold f_X5_hasElement; rw [if_neg c1, if_neg c9, if_neg c18]; try rfl)) dX5_hasElement_26
theorem hasElement_in {mi : MemI} {i : Nat} {x : Int32} (h : ¬ f_X5_hasElement mi i x = 0) : vp_in x 160 := by
  unfold f_X5_hasElement at h
  split at h
  · exact absurd rfl h
  · split at h
    · exact absurd rfl h
    · split at h
      · exact absurd rfl h
      · exact k_vin (by assumption) (by assumption) (by decide)
def f_X5_hasStretch (mi : MemI) (i : Nat) (x : Int32) (n : Int32) : Int32 :=
  if x < 0 then 0
  else if n < 0 then 0
    else if ((mi (5, 0, i) 2) - x) < n then 0
      else 1
theorem z_X5_hasStretch {mi : MemI} {i : Nat} {x : Int32} {n : Int32}  : (f_X5_hasStretch mi i x n) = 0 ∨ (f_X5_hasStretch mi i x n) = 1 := by
  unfold f_X5_hasStretch
  by_cases zh1 : x < 0
  · rw [if_pos zh1]
    exact (Or.inl rfl)
  · rw [if_neg zh1]
    by_cases zh2 : n < 0
    · rw [if_pos zh2]
      exact (Or.inl rfl)
    · rw [if_neg zh2]
      by_cases zh3 : ((mi (5, 0, i) 2) - x) < n
      · rw [if_pos zh3]
        exact (Or.inl rfl)
      · rw [if_neg zh3]
        exact (Or.inr rfl)
set_option maxRecDepth 100000 in
set_option maxHeartbeats 4000000 in
theorem ct_X5_hasStretch {mi : MemI} {ml : MemL} {i : Nat} {x : Int32} {n : Int32} (hi : i < 8) : k_Ct k_KS k_R0 Mt_X5_hasStretch 0 [vR (5, 0, i), vI x, vI n] mi ml (k_rt (some (vI (f_X5_hasStretch mi i x n))) mi ml) := by
  refine k_ofV (L0 := [vR (5, 0, i), vI x, vI n]) (by decide +kernel) (Nat.le_of_ble_eq_true rfl) rfl rfl ?_
  intro p l e s m args below meth c D cy ad bs C
  refine k_iload_n (pc := 0) C dX5_hasStretch_0 rfl ?_
  refine k_if_lt (pc := 1) C 22 dX5_hasStretch_1 (by decide) (fun c1 => ?_) (fun c1 => ?_)
  · skip
    refine k_iconst (pc := 22) (v := 0) C dX5_hasStretch_22 (by decide) ?_
    exact k_zret (pc := 23) C rfl (Or.inl rfl) (k_fI (by unfold f_X5_hasStretch; rw [if_pos c1]; try rfl)) dX5_hasStretch_23
  · skip
    refine k_iload_n (pc := 4) C dX5_hasStretch_4 rfl ?_
    refine k_if_lt (pc := 5) C 22 dX5_hasStretch_5 (by decide) (fun c5 => ?_) (fun c5 => ?_)
    · skip
      refine k_iconst (pc := 22) (v := 0) C dX5_hasStretch_22 (by decide) ?_
      exact k_zret (pc := 23) C rfl (Or.inl rfl) (k_fI (by unfold f_X5_hasStretch; rw [if_neg c1, if_pos c5]; try rfl)) dX5_hasStretch_23
    · skip
      refine k_iload_n (pc := 8) C dX5_hasStretch_8 rfl ?_
      refine k_aload_n (pc := 9) C dX5_hasStretch_9 rfl ?_
      refine k_getI (pc := 10) C fl_X5_31 (k_in5 hi) rfl rfl dX5_hasStretch_10 ?_
      refine k_iload_n (pc := 13) C dX5_hasStretch_13 rfl ?_
      refine k_isub (pc := 14) C dX5_hasStretch_14 ?_
      refine k_icmp_gt (pc := 15) C 22 dX5_hasStretch_15 (by decide) (fun c15 => ?_) (fun c15 => ?_)
      · skip
        refine k_iconst (pc := 22) (v := 0) C dX5_hasStretch_22 (by decide) ?_
        exact k_zret (pc := 23) C rfl (Or.inl rfl) (k_fI (by unfold f_X5_hasStretch; rw [if_neg c1, if_neg c5, if_pos c15]; try rfl)) dX5_hasStretch_23
      · skip
        refine k_iconst (pc := 18) (v := 1) C dX5_hasStretch_18 (by decide) ?_
        refine k_goto (pc := 19) C 23 dX5_hasStretch_19 (by decide) ?_
        exact k_zret (pc := 23) C rfl (Or.inr rfl) (k_fI (by unfold f_X5_hasStretch; rw [if_neg c1, if_neg c5, if_neg c15]; try rfl)) dX5_hasStretch_23
def f_X5_get (mi : MemI) (ml : MemL) (i : Nat) (x : Int32) : Int64 :=
  if (f_X5_hasElement mi i x) = 0 then 0
  else (ml (9, 0, i) x.toNatClampNeg)
set_option maxRecDepth 100000 in
set_option maxHeartbeats 4000000 in
theorem ct_X5_get {mi : MemI} {ml : MemL} {i : Nat} {x : Int32} (hi : i < 8) : k_Ct k_KS k_R0 Mt_X5_get 1 [vR (5, 0, i), vI x] mi ml (k_rt (some (vL (f_X5_get mi ml i x))) mi ml) := by
  refine k_ofV (L0 := [vR (5, 0, i), vI x]) (by decide +kernel) (Nat.le_of_ble_eq_true rfl) rfl rfl ?_
  intro p l e s m args below meth c D cy ad bs C
  refine k_aload_n (pc := 0) C dX5_get_0 rfl ?_
  refine k_iload_n (pc := 1) C dX5_get_1 rfl ?_
  refine k_call1 (pc := 2) C cv_X5_38 (ct_X5_hasElement hi) (k_in5 hi) rfl (by decide) rfl (Nat.le_of_ble_eq_true rfl) dX5_get_2 ?_
  refine k_if_eq (pc := 5) C 17 dX5_get_5 (by decide) (fun c5 => ?_) (fun c5 => ?_)
  · skip
    refine k_lconst (pc := 17) (v := 0) C dX5_get_17 (by decide) ?_
    exact k_lret (pc := 18) C rfl (k_fL (by unfold f_X5_get; rw [if_pos c5]; try rfl)) dX5_get_18
  · skip
    have qc5 := hasElement_in c5
    refine k_aload_n (pc := 8) C dX5_get_8 rfl ?_
    refine k_getR (pc := 9) (r := some (9, 0, i)) C fl_X5_9 (k_in5 hi) rfl rfl rfl dX5_get_9 ?_
    refine k_iload_n (pc := 12) C dX5_get_12 rfl ?_
    refine k_laldX (pc := 13) (j := x.toNatClampNeg) C rfl (k_in9 hi) rfl (by first | assumption | exact k_vin (N := 160) (n := 160) (by assumption) (by assumption) (by decide)) dX5_get_13 ?_
    refine k_goto (pc := 14) C 18 dX5_get_14 (by decide) ?_
    exact k_lret (pc := 18) C rfl (k_fL (by unfold f_X5_get; rw [if_neg c5]; try rfl)) dX5_get_18
def f_X5_getInt (mi : MemI) (ml : MemL) (i : Nat) (x : Int32) : Int32 :=
  ((f_X5_get mi ml i x).toInt32)
set_option maxRecDepth 100000 in
set_option maxHeartbeats 4000000 in
theorem ct_X5_getInt {mi : MemI} {ml : MemL} {i : Nat} {x : Int32} (hi : i < 8) : k_Ct k_KS k_R0 Mt_X5_getInt 2 [vR (5, 0, i), vI x] mi ml (k_rt (some (vI (f_X5_getInt mi ml i x))) mi ml) := by
  refine k_ofV (L0 := [vR (5, 0, i), vI x]) (by decide +kernel) (Nat.le_of_ble_eq_true rfl) rfl rfl ?_
  intro p l e s m args below meth c D cy ad bs C
  refine k_aload_n (pc := 0) C dX5_getInt_0 rfl ?_
  refine k_iload_n (pc := 1) C dX5_getInt_1 rfl ?_
  refine k_call1 (pc := 2) C cv_X5_42 (ct_X5_get hi) (k_in5 hi) rfl (by decide) rfl (Nat.le_of_ble_eq_true rfl) dX5_getInt_2 ?_
  refine k_l2i (pc := 5) C dX5_getInt_5 ?_
  exact k_iret (pc := 6) C rfl (k_fI rfl) dX5_getInt_6
def f_X5_put (mi : MemI) (ml : MemL) (i : Nat) (x : Int32) (v : Int64) : MemL :=
  if (f_X5_hasElement mi i x) = 0 then ml
  else if (mi (5, 0, i) 1) = 0 then (k_ul ml (9, 0, i) x.toNatClampNeg v.toInt32.toInt8.toInt32.toInt64)
    else if (mi (5, 0, i) 1) = 1 then (k_ul ml (9, 0, i) x.toNatClampNeg v.toInt32.toInt16.toInt32.toInt64)
      else if (mi (5, 0, i) 1) = 2 then (k_ul ml (9, 0, i) x.toNatClampNeg v.toInt32.toInt64)
        else if (mi (5, 0, i) 1) = 3 then (k_ul ml (9, 0, i) x.toNatClampNeg v)
          else ml
set_option maxRecDepth 100000 in
set_option maxHeartbeats 4000000 in
theorem ct_X5_put {mi : MemI} {ml : MemL} {i : Nat} {x : Int32} {v : Int64} (hi : i < 8) : k_Ct k_KS k_R0 Mt_X5_put 1 [vR (5, 0, i), vI x, vL v] mi ml (k_rt none mi (f_X5_put mi ml i x v)) := by
  refine k_ofV (L0 := [vR (5, 0, i), vI x, vL v, vU]) (by decide +kernel) (Nat.le_of_ble_eq_true rfl) rfl rfl ?_
  intro p l e s m args below meth c D cy ad bs C
  refine k_aload_n (pc := 0) C dX5_put_0 rfl ?_
  refine k_iload_n (pc := 1) C dX5_put_1 rfl ?_
  refine k_call1 (pc := 2) C cv_X5_38 (ct_X5_hasElement hi) (k_in5 hi) rfl (by decide) rfl (Nat.le_of_ble_eq_true rfl) dX5_put_2 ?_
  refine k_if_ne (pc := 5) C 9 dX5_put_5 (by decide) (fun c5 => ?_) (fun c5 => ?_)
  · skip
    have qc5 := hasElement_in c5
    refine k_aload_n (pc := 9) C dX5_put_9 rfl ?_
    refine k_getI (pc := 10) C fl_X5_15 (k_in5 hi) rfl rfl dX5_put_10 ?_
    by_cases c13_0 : (mi (5, 0, i) 1) = 0
    · skip
      refine k_tabIn (pc := 13) (v := 0) C 44 dX5_put_13 c13_0 (by decide) (by decide) rfl (by decide) ?_
      refine k_aload_n (pc := 44) C dX5_put_44 rfl ?_
      refine k_getR (pc := 45) (r := some (9, 0, i)) C fl_X5_9 (k_in5 hi) rfl rfl rfl dX5_put_45 ?_
      refine k_iload_n (pc := 48) C dX5_put_48 rfl ?_
      refine k_lload_n (pc := 49) C dX5_put_49 rfl ?_
      refine k_l2i (pc := 50) C dX5_put_50 ?_
      refine k_i2b (pc := 51) C dX5_put_51 ?_
      refine k_i2l (pc := 52) C dX5_put_52 ?_
      refine k_lastX (pc := 53) (j := x.toNatClampNeg) C rfl (k_in9 hi) rfl (by first | assumption | exact k_vin (N := 160) (n := 160) (by assumption) (by assumption) (by decide)) dX5_put_53 ?_
      refine k_goto (pc := 54) C 92 dX5_put_54 (by decide) ?_
      exact k_vret (pc := 92) C rfl (k_fl (by unfold f_X5_put; rw [if_neg c5, if_pos c13_0]; try rfl)) dX5_put_92
    by_cases c13_1 : (mi (5, 0, i) 1) = 1
    · skip
      refine k_tabIn (pc := 13) (v := 1) C 57 dX5_put_13 c13_1 (by decide) (by decide) rfl (by decide) ?_
      refine k_aload_n (pc := 57) C dX5_put_57 rfl ?_
      refine k_getR (pc := 58) (r := some (9, 0, i)) C fl_X5_9 (k_in5 hi) rfl rfl rfl dX5_put_58 ?_
      refine k_iload_n (pc := 61) C dX5_put_61 rfl ?_
      refine k_lload_n (pc := 62) C dX5_put_62 rfl ?_
      refine k_l2i (pc := 63) C dX5_put_63 ?_
      refine k_i2s (pc := 64) C dX5_put_64 ?_
      refine k_i2l (pc := 65) C dX5_put_65 ?_
      refine k_lastX (pc := 66) (j := x.toNatClampNeg) C rfl (k_in9 hi) rfl (by first | assumption | exact k_vin (N := 160) (n := 160) (by assumption) (by assumption) (by decide)) dX5_put_66 ?_
      refine k_goto (pc := 67) C 92 dX5_put_67 (by decide) ?_
      exact k_vret (pc := 92) C rfl (k_fl (by unfold f_X5_put; rw [if_neg c5, if_neg c13_0, if_pos c13_1]; try rfl)) dX5_put_92
    by_cases c13_2 : (mi (5, 0, i) 1) = 2
    · skip
      refine k_tabIn (pc := 13) (v := 2) C 70 dX5_put_13 c13_2 (by decide) (by decide) rfl (by decide) ?_
      refine k_aload_n (pc := 70) C dX5_put_70 rfl ?_
      refine k_getR (pc := 71) (r := some (9, 0, i)) C fl_X5_9 (k_in5 hi) rfl rfl rfl dX5_put_71 ?_
      refine k_iload_n (pc := 74) C dX5_put_74 rfl ?_
      refine k_lload_n (pc := 75) C dX5_put_75 rfl ?_
      refine k_l2i (pc := 76) C dX5_put_76 ?_
      refine k_i2l (pc := 77) C dX5_put_77 ?_
      refine k_lastX (pc := 78) (j := x.toNatClampNeg) C rfl (k_in9 hi) rfl (by first | assumption | exact k_vin (N := 160) (n := 160) (by assumption) (by assumption) (by decide)) dX5_put_78 ?_
      refine k_goto (pc := 79) C 92 dX5_put_79 (by decide) ?_
      exact k_vret (pc := 92) C rfl (k_fl (by unfold f_X5_put; rw [if_neg c5, if_neg c13_0, if_neg c13_1, if_pos c13_2]; try rfl)) dX5_put_92
    by_cases c13_3 : (mi (5, 0, i) 1) = 3
    · skip
      refine k_tabIn (pc := 13) (v := 3) C 82 dX5_put_13 c13_3 (by decide) (by decide) rfl (by decide) ?_
      refine k_aload_n (pc := 82) C dX5_put_82 rfl ?_
      refine k_getR (pc := 83) (r := some (9, 0, i)) C fl_X5_9 (k_in5 hi) rfl rfl rfl dX5_put_83 ?_
      refine k_iload_n (pc := 86) C dX5_put_86 rfl ?_
      refine k_lload_n (pc := 87) C dX5_put_87 rfl ?_
      refine k_lastX (pc := 88) (j := x.toNatClampNeg) C rfl (k_in9 hi) rfl (by first | assumption | exact k_vin (N := 160) (n := 160) (by assumption) (by assumption) (by decide)) dX5_put_88 ?_
      refine k_goto (pc := 89) C 92 dX5_put_89 (by decide) ?_
      exact k_vret (pc := 92) C rfl (k_fl (by unfold f_X5_put; rw [if_neg c5, if_neg c13_0, if_neg c13_1, if_neg c13_2, if_pos c13_3]; try rfl)) dX5_put_92
    refine k_tabOut (pc := 13) C 92 dX5_put_13 (k_out 0 3 (fun v h1 h2 => by rcases (show v = 0 ∨ v = 1 ∨ v = 2 ∨ v = 3 by omega) with rfl | rfl | rfl | rfl <;> first | exact c13_0 | exact c13_1 | exact c13_2 | exact c13_3)) (by decide) ?_
    exact k_vret (pc := 92) C rfl (k_fl (by unfold f_X5_put; rw [if_neg c5, if_neg c13_0, if_neg c13_1, if_neg c13_2, if_neg c13_3]; try rfl)) dX5_put_92
  · skip
    exact k_vret (pc := 8) C rfl (k_fl (by unfold f_X5_put; rw [if_pos c5]; try rfl)) dX5_put_8
theorem hasStretch_in {mi : MemI} {i len : Nat} {x n : Int32} (hl : mi (5, 0, i) 2 = nI len) (hle : len ≤ 160) (h : ¬ f_X5_hasStretch mi i x n = 0) : ¬ x < 0 ∧ ¬ n < 0 ∧ x.toNatClampNeg + n.toNatClampNeg ≤ 160 := by
  unfold f_X5_hasStretch at h
  split at h
  · exact absurd rfl h
  · rename_i h0
    split at h
    · exact absurd rfl h
    · rename_i h1
      split at h
      · exact absurd rfl h
      · rename_i h2
        refine ⟨h0, h1, ?_⟩
        have h3 : n ≤ mi (5, 0, i) 2 - x := Int32.not_lt.mp h2
        skip
        obtain ⟨jx, hjx, rfl⟩ := nI_of h0
        obtain ⟨jn, hjn, rfl⟩ := nI_of h1
        rw [nI_clamp hjx, nI_clamp hjn]
        rw [hl, Int32.le_iff_toInt_le, nI_toInt hjn] at h3
        by_cases hc : jx ≤ len
        · rw [pk_sub hc, nI_toInt (by omega)] at h3
          omega
        · have h4 : (nI len - nI jx).toInt < 0 := by
            rw [Int32.toInt_sub, nI_toInt (by omega), nI_toInt hjx]
            simp only [Int.bmod_def]
            omega
          omega
theorem ca_l : Cond.methodLink RX5 50 arraycopyName ∈ k_WS := k_inWS 366 (by decide +kernel) (by decide)
theorem ca_n : Cond.native arraycopyName ∈ k_WS := k_inWS 368 (by decide +kernel) (by decide)
theorem ca_s : Cond.static arraycopyName ∈ k_WS := k_inWS 367 (by decide +kernel) (by decide)
theorem ca_i : Cond.initialized "java/lang/System" ∈ k_WS := k_inWS 10 (by decide +kernel) (by decide)
def f_X5_takeElements (mi : MemI) (ml : MemL) (i : Nat) (i2 : Nat) (x : Int32) (y : Int32) (n : Int32) : MemL :=
  if (f_X5_hasStretch mi i2 x n) = 0 then ml
  else if (f_X5_hasStretch mi i y n) = 0 then ml
    else (fun kx jx => if kx = (9, 0, i) then va_cpy (ml (9, 0, i2)) (ml (9, 0, i)) x.toNatClampNeg y.toNatClampNeg n.toNatClampNeg jx else ml kx jx)
set_option maxRecDepth 100000 in
set_option maxHeartbeats 4000000 in
theorem ct_X5_takeElements {len len2 : Nat} {mi : MemI} {ml : MemL} {i : Nat} {i2 : Nat} {x : Int32} {y : Int32} {n : Int32} (hi : i < 8) (hi2 : i2 < 8) (hl : mi (5, 0, i) 2 = nI len) (hle : len ≤ 160) (hl2 : mi (5, 0, i2) 2 = nI len2) (hle2 : len2 ≤ 160) : k_Ct k_KS k_R0 Mt_X5_takeElements 1 [vR (5, 0, i), vR (5, 0, i2), vI x, vI y, vI n] mi ml (k_rt none mi (f_X5_takeElements mi ml i i2 x y n)) := by
  refine k_ofV (L0 := [vR (5, 0, i), vR (5, 0, i2), vI x, vI y, vI n]) (by decide +kernel) (Nat.le_of_ble_eq_true rfl) rfl rfl ?_
  intro p l e s m args below meth c D cy ad bs C
  refine k_aload_n (pc := 0) C dX5_takeElements_0 rfl ?_
  refine k_iload_n (pc := 1) C dX5_takeElements_1 rfl ?_
  refine k_iload (pc := 2) C dX5_takeElements_2 rfl ?_
  refine k_call2 (pc := 4) C cv_X5_46 (ct_X5_hasStretch hi2) (k_in5 hi2) rfl (by decide) rfl (Nat.le_of_ble_eq_true rfl) dX5_takeElements_4 ?_
  refine k_if_eq (pc := 7) C 35 dX5_takeElements_7 (by decide) (fun c7 => ?_) (fun c7 => ?_)
  · skip
    exact k_vret (pc := 35) C rfl (k_fl (by unfold f_X5_takeElements; rw [if_pos c7]; try rfl)) dX5_takeElements_35
  · skip
    try obtain ⟨qac7, qbc7, qcc7⟩ := hasStretch_in (by assumption) (by assumption) c7
    refine k_aload_n (pc := 10) C dX5_takeElements_10 rfl ?_
    refine k_iload_n (pc := 11) C dX5_takeElements_11 rfl ?_
    refine k_iload (pc := 12) C dX5_takeElements_12 rfl ?_
    refine k_call2 (pc := 14) C cv_X5_46 (ct_X5_hasStretch hi) (k_in5 hi) rfl (by decide) rfl (Nat.le_of_ble_eq_true rfl) dX5_takeElements_14 ?_
    refine k_if_eq (pc := 17) C 35 dX5_takeElements_17 (by decide) (fun c17 => ?_) (fun c17 => ?_)
    · skip
      exact k_vret (pc := 35) C rfl (k_fl (by unfold f_X5_takeElements; rw [if_neg c7, if_pos c17]; try rfl)) dX5_takeElements_35
    · skip
      try obtain ⟨qac17, qbc17, qcc17⟩ := hasStretch_in (by assumption) (by assumption) c17
      refine k_aload_n (pc := 20) C dX5_takeElements_20 rfl ?_
      refine k_getR (pc := 21) (r := some (9, 0, i2)) C fl_X5_9 (k_in5 hi2) rfl rfl rfl dX5_takeElements_21 ?_
      refine k_iload_n (pc := 24) C dX5_takeElements_24 rfl ?_
      refine k_aload_n (pc := 25) C dX5_takeElements_25 rfl ?_
      refine k_getR (pc := 26) (r := some (9, 0, i)) C fl_X5_9 (k_in5 hi) rfl rfl rfl dX5_takeElements_26 ?_
      refine k_iload_n (pc := 29) C dX5_takeElements_29 rfl ?_
      refine k_iload (pc := 30) C dX5_takeElements_30 rfl ?_
      refine k_copyl (pc := 32) C ca_l ca_n ca_s ca_i (k_in9 hi2) (k_in9 hi) rfl rfl (by assumption) (by assumption) (by assumption) (by assumption) (by assumption) (by decide) rfl (Nat.le_of_ble_eq_true rfl) dX5_takeElements_32 ?_
      exact k_vret (pc := 35) C rfl (k_fl (by unfold f_X5_takeElements; rw [if_neg c7, if_neg c17]; try rfl)) dX5_takeElements_35
def f_X5_takeRow (mi : MemI) (ml : MemL) (i : Nat) (o n : Int32) : MemI × MemL := (k_ui (k_ui (k_ui mi (5, 0, i) 1 o) (5, 0, i) 2 (k_mx 0 (k_mn n 160))) (5, 0, i) 3 (-1), k_zr ml (9, 0, i) 160)
set_option maxRecDepth 100000 in
set_option maxHeartbeats 4000000 in
theorem ct_X5_takeRow {mi : MemI} {ml : MemL} {i : Nat} {o n : Int32} (hi : i < 8) : k_Ct k_KS k_R0 Mt_X5_takeRow 1 [vR (5, 0, i), vI o, vI n] mi ml (k_rt none (f_X5_takeRow mi ml i o n).1 (f_X5_takeRow mi ml i o n).2) := by
  refine k_ofV (L0 := [vR (5, 0, i), vI o, vI n, vU]) (by decide +kernel) (Nat.le_of_ble_eq_true rfl) rfl rfl ?_
  intro p l e s m args below meth c D cy ad bs C
  refine k_aload_n (pc := 0) C dX5_takeRow_0 rfl ?_
  refine k_iload_n (pc := 1) C dX5_takeRow_1 rfl ?_
  refine k_putI (pc := 2) C pl_X5_15 (k_in5 hi) rfl rfl dX5_takeRow_2 ?_
  refine k_aload_n (pc := 5) C dX5_takeRow_5 rfl ?_
  refine k_iconst (pc := 6) (v := 0) C dX5_takeRow_6 (by decide) ?_
  refine k_iload_n (pc := 7) C dX5_takeRow_7 rfl ?_
  refine k_aload_n (pc := 8) C dX5_takeRow_8 rfl ?_
  refine k_getR (pc := 9) (r := some (9, 0, i)) C fl_X5_9 (k_in5 hi) rfl rfl rfl dX5_takeRow_9 ?_
  refine k_alen (pc := 12) (v := 160) C (k_in9 hi) ⟨Nat.le_of_ble_eq_true rfl, Nat.le_of_ble_eq_true rfl⟩ rfl dX5_takeRow_12 ?_
  refine k_mmin (pc := 13) C cm_X5_22 cm_min_s cm_i cm_min_c (by decide) rfl (Nat.le_of_ble_eq_true rfl) dX5_takeRow_13 ?_
  refine k_mmax (pc := 16) C cm_X5_28 cm_max_s cm_i cm_max_c (by decide) rfl (Nat.le_of_ble_eq_true rfl) dX5_takeRow_16 ?_
  refine k_putI (pc := 19) C pl_X5_31 (k_in5 hi) rfl rfl dX5_takeRow_19 ?_
  refine k_aload_n (pc := 22) C dX5_takeRow_22 rfl ?_
  refine k_iconst (pc := 23) (v := (-1)) C dX5_takeRow_23 (by decide) ?_
  refine k_putI (pc := 24) C pl_X5_19 (k_in5 hi) rfl rfl dX5_takeRow_24 ?_
  refine k_iconst (pc := 27) (v := 0) C dX5_takeRow_27 (by decide) ?_
  refine k_istore_3 (pc := 28) C dX5_takeRow_28 rfl ?_
  refine k_cast (L' := [vR (5, 0, i), vI o, vI n, vI (nI 0)]) rfl rfl (k_zr_0 ml (9, 0, i)) ?_
  refine k_down (P := fun j => k_V p l e (k_rm 1) s m args below meth c D cy ad bs k_KS k_R0 0 0 (k_End below D cy ad bs k_KS k_R0 (k_rt none (f_X5_takeRow mi ml i o n).1 (f_X5_takeRow mi ml i o n).2) args s) (k_ui (k_ui (k_ui mi (5, 0, i) 1 o) (5, 0, i) 2 (k_mx 0 (k_mn n 160))) (5, 0, i) 3 (-1)) (k_zr ml (9, 0, i) j) 29 [vR (5, 0, i), vI o, vI n, vI (nI j)] []) 160 ?_ (fun j hj hk => ?_)
  · skip
    refine k_iload_n (pc := 29) C dX5_takeRow_29 rfl ?_
    refine k_aload_n (pc := 30) C dX5_takeRow_30 rfl ?_
    refine k_getR (pc := 31) (r := some (9, 0, i)) C fl_X5_9 (k_in5 hi) rfl rfl rfl dX5_takeRow_31 ?_
    refine k_alen (pc := 34) (v := 160) C (k_in9 hi) ⟨Nat.le_of_ble_eq_true rfl, Nat.le_of_ble_eq_true rfl⟩ rfl dX5_takeRow_34 ?_
    refine k_icmp_geT (pc := 35) C 51 dX5_takeRow_35 (by decide) (by decide) ?_
    exact k_vret (pc := 51) C rfl (k_fml rfl) dX5_takeRow_51
  · skip
    try dsimp only at hk
    refine k_iload_n (pc := 29) C dX5_takeRow_29 rfl ?_
    refine k_aload_n (pc := 30) C dX5_takeRow_30 rfl ?_
    refine k_getR (pc := 31) (r := some (9, 0, i)) C fl_X5_9 (k_in5 hi) rfl rfl rfl dX5_takeRow_31 ?_
    refine k_alen (pc := 34) (v := 160) C (k_in9 hi) ⟨Nat.le_of_ble_eq_true rfl, Nat.le_of_ble_eq_true rfl⟩ rfl dX5_takeRow_34 ?_
    refine k_icmp_geF (pc := 35) C 51 dX5_takeRow_35 (by decide) (k_nge (n := 160) rfl (by decide) hj) ?_
    refine k_aload_n (pc := 38) C dX5_takeRow_38 rfl ?_
    refine k_getR (pc := 39) (r := some (9, 0, i)) C fl_X5_9 (k_in5 hi) rfl rfl rfl dX5_takeRow_39 ?_
    refine k_iload_n (pc := 42) C dX5_takeRow_42 rfl ?_
    refine k_lconst (pc := 43) (v := 0) C dX5_takeRow_43 (by decide) ?_
    refine k_lastX (pc := 44) (j := j) C (nI_clamp (by omega)) (k_in9 hi) rfl (vp_in_nI (show _ < (160 : Nat) by omega) (show (160 : Nat) < 2 ^ 31 by decide)) dX5_takeRow_44 ?_
    refine k_iinc_3 (pc := 45) (v := nI (j + 1)) C dX5_takeRow_45 (k_inc j) rfl ?_
    refine k_goto (pc := 48) C 29 dX5_takeRow_48 (by decide) ?_
    exact k_cast rfl rfl (k_zr_s ml (9, 0, i) j).symm hk
