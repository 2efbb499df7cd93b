/-! the constructors, as the law runs them -/
def k_vob (ks : List Ky) (L : List MV) : Bool := L.all (fun v => match v with
  | .inr (.inr (.inl (some y))) => decide (y ∈ ks) || decide (13 ≤ y.1)
  | _ => true)
theorem k_vo_of {ks : List Ky} {L : List MV} (h : k_vob ks L = true) : k_vo ks L := by
  intro v hv y e
  have := List.all_eq_true.mp h v hv
  subst e
  simpa using this
theorem k_ag_sub {ks ks1 : List Ky} {a b c : Ky → Nat} (hs : ∀ k ∈ ks, k ∈ ks1) (h1 : k_ag ks a b) (h2 : k_ag ks1 b c) : k_ag ks a c := fun k hk => (h2 k (hk.imp (hs k) id)).trans (h1 k hk)
def qR_z : MemR := fun _ _ => none
def qM_z : MemI := fun _ _ => 0
def qL_z : MemL := fun _ _ => 0
theorem qcl_z : k_cl qR_z [] := fun _ _ _ e => by cases e
theorem ow_X6 : Cond.methodLink RX6 1 Lib.objectInit ∈ k_WS := k_inWS 20 (by decide +kernel) (by decide)
theorem ow_X2 : Cond.methodLink RX2 3 Lib.objectInit ∈ k_WS := k_inWS 28 (by decide +kernel) (by decide)
theorem ow_X1 : Cond.methodLink RX1 3 Lib.objectInit ∈ k_WS := k_inWS 37 (by decide +kernel) (by decide)
theorem ow_X0 : Cond.methodLink RX0 3 Lib.objectInit ∈ k_WS := k_inWS 112 (by decide +kernel) (by decide)
theorem ow_X4 : Cond.methodLink RX4 3 Lib.objectInit ∈ k_WS := k_inWS 214 (by decide +kernel) (by decide)
theorem ow_X3 : Cond.methodLink RX3 3 Lib.objectInit ∈ k_WS := k_inWS 235 (by decide +kernel) (by decide)
theorem ow_X5 : Cond.methodLink RX5 3 Lib.objectInit ∈ k_WS := k_inWS 257 (by decide +kernel) (by decide)
theorem ow_X7 : Cond.methodLink RX7 1 Lib.objectInit ∈ k_WS := k_inWS 920 (by decide +kernel) (by decide)
theorem wl_L_7 : Cond.classLink RL 7 RX6 ∈ k_WS := k_inWS 15 (by decide +kernel) (by decide)
theorem wl_X6_7 : Cond.classLink RX6 7 RX2 ∈ k_WS := k_inWS 23 (by decide +kernel) (by decide)
theorem wl_X2_9 : Cond.classLink RX2 9 RX1 ∈ k_WS := k_inWS 29 (by decide +kernel) (by decide)
theorem wl_X2_17 : Cond.classLink RX2 17 RX0 ∈ k_WS := k_inWS 31 (by decide +kernel) (by decide)
theorem wl_X6_22 : Cond.classLink RX6 22 RX5 ∈ k_WS := k_inWS 207 (by decide +kernel) (by decide)
theorem wl_X6_32 : Cond.classLink RX6 32 RX4 ∈ k_WS := k_inWS 209 (by decide +kernel) (by decide)
theorem wl_X6_39 : Cond.classLink RX6 39 RX3 ∈ k_WS := k_inWS 230 (by decide +kernel) (by decide)
theorem wl_L_10 : Cond.classLink RL 10 RX7 ∈ k_WS := k_inWS 915 (by decide +kernel) (by decide)
theorem wi_X6 : Cond.instantiable RX6 8 ∈ k_WS := k_inWS 16 (by decide +kernel) (by decide)
theorem wn_X6 : Cond.initialized RX6 ∈ k_WS := k_inWS 1 (by decide +kernel) (by decide)
theorem df_X6 : ∀ j, j < 8 → defaultValue (tyX6 j) = if k_rf 6 j = true then .null else .int 0 := by
  intro j hj
  match j, hj with
  | 0, _ => rfl
  | 1, _ => rfl
  | 2, _ => rfl
  | 3, _ => rfl
  | 4, _ => rfl
  | 5, _ => rfl
  | 6, _ => rfl
  | 7, _ => rfl
  | j + 8, h => exact absurd h (by omega)
theorem wi_X2 : Cond.instantiable RX2 8 ∈ k_WS := k_inWS 24 (by decide +kernel) (by decide)
theorem wn_X2 : Cond.initialized RX2 ∈ k_WS := k_inWS 2 (by decide +kernel) (by decide)
theorem df_X2 : ∀ j, j < 8 → defaultValue (tyX2 j) = if k_rf 2 j = true then .null else .int 0 := by
  intro j hj
  match j, hj with
  | 0, _ => rfl
  | 1, _ => rfl
  | 2, _ => rfl
  | 3, _ => rfl
  | 4, _ => rfl
  | 5, _ => rfl
  | 6, _ => rfl
  | 7, _ => rfl
  | j + 8, h => exact absurd h (by omega)
theorem wi_X1 : Cond.instantiable RX1 15 ∈ k_WS := k_inWS 33 (by decide +kernel) (by decide)
theorem wn_X1 : Cond.initialized RX1 ∈ k_WS := k_inWS 3 (by decide +kernel) (by decide)
theorem df_X1 : ∀ j, j < 15 → defaultValue (tyX1 j) = if k_rf 1 j = true then .null else .int 0 := by
  intro j hj
  match j, hj with
  | 0, _ => rfl
  | 1, _ => rfl
  | 2, _ => rfl
  | 3, _ => rfl
  | 4, _ => rfl
  | 5, _ => rfl
  | 6, _ => rfl
  | 7, _ => rfl
  | 8, _ => rfl
  | 9, _ => rfl
  | 10, _ => rfl
  | 11, _ => rfl
  | 12, _ => rfl
  | 13, _ => rfl
  | 14, _ => rfl
  | j + 15, h => exact absurd h (by omega)
theorem wi_X0 : Cond.instantiable RX0 12 ∈ k_WS := k_inWS 108 (by decide +kernel) (by decide)
theorem wn_X0 : Cond.initialized RX0 ∈ k_WS := k_inWS 4 (by decide +kernel) (by decide)
theorem df_X0 : ∀ j, j < 12 → defaultValue (tyX0 j) = if k_rf 0 j = true then .null else .int 0 := by
  intro j hj
  match j, hj with
  | 0, _ => rfl
  | 1, _ => rfl
  | 2, _ => rfl
  | 3, _ => rfl
  | 4, _ => rfl
  | 5, _ => rfl
  | 6, _ => rfl
  | 7, _ => rfl
  | 8, _ => rfl
  | 9, _ => rfl
  | 10, _ => rfl
  | 11, _ => rfl
  | j + 12, h => exact absurd h (by omega)
theorem wi_X4 : Cond.instantiable RX4 4 ∈ k_WS := k_inWS 210 (by decide +kernel) (by decide)
theorem wn_X4 : Cond.initialized RX4 ∈ k_WS := k_inWS 5 (by decide +kernel) (by decide)
theorem df_X4 : ∀ j, j < 4 → defaultValue (tyX4 j) = if k_rf 4 j = true then .null else .int 0 := by
  intro j hj
  match j, hj with
  | 0, _ => rfl
  | 1, _ => rfl
  | 2, _ => rfl
  | 3, _ => rfl
  | j + 4, h => exact absurd h (by omega)
theorem wi_X3 : Cond.instantiable RX3 5 ∈ k_WS := k_inWS 231 (by decide +kernel) (by decide)
theorem wn_X3 : Cond.initialized RX3 ∈ k_WS := k_inWS 6 (by decide +kernel) (by decide)
theorem df_X3 : ∀ j, j < 5 → defaultValue (tyX3 j) = if k_rf 3 j = true then .null else .int 0 := by
  intro j hj
  match j, hj with
  | 0, _ => rfl
  | 1, _ => rfl
  | 2, _ => rfl
  | 3, _ => rfl
  | 4, _ => rfl
  | j + 5, h => exact absurd h (by omega)
theorem wi_X5 : Cond.instantiable RX5 4 ∈ k_WS := k_inWS 253 (by decide +kernel) (by decide)
theorem wn_X5 : Cond.initialized RX5 ∈ k_WS := k_inWS 7 (by decide +kernel) (by decide)
theorem df_X5 : ∀ j, j < 4 → defaultValue (tyX5 j) = if k_rf 5 j = true then .null else .int 0 := by
  intro j hj
  match j, hj with
  | 0, _ => rfl
  | 1, _ => rfl
  | 2, _ => rfl
  | 3, _ => rfl
  | j + 4, h => exact absurd h (by omega)
theorem wi_X7 : Cond.instantiable RX7 53 ∈ k_WS := k_inWS 916 (by decide +kernel) (by decide)
theorem wn_X7 : Cond.initialized RX7 ∈ k_WS := k_inWS 8 (by decide +kernel) (by decide)
theorem df_X7 : ∀ j, j < 53 → defaultValue (tyX7 j) = if k_rf 7 j = true then .null else .int 0 := by
  intro j hj
  match j, hj with
  | 0, _ => rfl
  | 1, _ => rfl
  | 2, _ => rfl
  | 3, _ => rfl
  | 4, _ => rfl
  | 5, _ => rfl
  | 6, _ => rfl
  | 7, _ => rfl
  | 8, _ => rfl
  | 9, _ => rfl
  | 10, _ => rfl
  | 11, _ => rfl
  | 12, _ => rfl
  | 13, _ => rfl
  | 14, _ => rfl
  | 15, _ => rfl
  | 16, _ => rfl
  | 17, _ => rfl
  | 18, _ => rfl
  | 19, _ => rfl
  | 20, _ => rfl
  | 21, _ => rfl
  | 22, _ => rfl
  | 23, _ => rfl
  | 24, _ => rfl
  | 25, _ => rfl
  | 26, _ => rfl
  | 27, _ => rfl
  | 28, _ => rfl
  | 29, _ => rfl
  | 30, _ => rfl
  | 31, _ => rfl
  | 32, _ => rfl
  | 33, _ => rfl
  | 34, _ => rfl
  | 35, _ => rfl
  | 36, _ => rfl
  | 37, _ => rfl
  | 38, _ => rfl
  | 39, _ => rfl
  | 40, _ => rfl
  | 41, _ => rfl
  | 42, _ => rfl
  | 43, _ => rfl
  | 44, _ => rfl
  | 45, _ => rfl
  | 46, _ => rfl
  | 47, _ => rfl
  | 48, _ => rfl
  | 49, _ => rfl
  | 50, _ => rfl
  | 51, _ => rfl
  | 52, _ => rfl
  | j + 53, h => exact absurd h (by omega)
theorem cI_X6_9 : k_CI RX6 9 Mt_X2_init 0 := ⟨cb_X2_init, Or.inr ⟨"BeggarsChoose", k_inNW 25 (by decide +kernel) (by decide)⟩, ci_X2_init, rfl⟩
theorem cI_X6_34 : k_CI RX6 34 Mt_X4_init 0 := ⟨cb_X4_init, Or.inr ⟨"BeggarsChoose", k_inNW 211 (by decide +kernel) (by decide)⟩, ci_X4_init, rfl⟩
theorem cI_X6_41 : k_CI RX6 41 Mt_X3_init 0 := ⟨cb_X3_init, Or.inr ⟨"BeggarsChoose", k_inNW 232 (by decide +kernel) (by decide)⟩, ci_X3_init, rfl⟩
theorem cI_X6_46 : k_CI RX6 46 Mt_X5_init 0 := ⟨cb_X5_init, Or.inr ⟨"BeggarsChoose", k_inNW 254 (by decide +kernel) (by decide)⟩, ci_X5_init, rfl⟩
theorem cI_X2_27 : k_CI RX2 27 Mt_X1_init 1 := ⟨cb_X1_init, Or.inr ⟨"BeggarsChoose", k_inNW 34 (by decide +kernel) (by decide)⟩, ci_X1_init, rfl⟩
theorem cI_X2_30 : k_CI RX2 30 Mt_X0_init 1 := ⟨cb_X0_init, Or.inr ⟨"BeggarsChoose", k_inNW 109 (by decide +kernel) (by decide)⟩, ci_X0_init, rfl⟩
theorem cI_L_9 : k_CI RL 9 Mt_X6_init 0 := ⟨cb_X6_init, Or.inl (k_inWS 17 (by decide +kernel) (by decide)), ci_X6_init, rfl⟩
theorem cI_L_12 : k_CI RL 12 Mt_X7_init 0 := ⟨cb_X7_init, Or.inl (k_inWS 917 (by decide +kernel) (by decide)), ci_X7_init, rfl⟩
theorem ct_X0_init {ks : List Ky} {mr : MemR} {mi : MemI} {ml : MemL} {kk : Ky} {n : Int32} (hk : kk ∈ ks) (hc : kk.1 = 0) : k_Ct ks mr Mt_X0_init 1 [vR kk, vI n] mi ml (k_rt none (k_ui (k_ui (k_ui (k_ui (k_ui (k_ui mi kk 5 (-1)) kk 7 (-1)) kk 9 (-1)) kk 10 (-1)) kk 11 (-1)) kk 0 n) ml) := by
  refine k_ofV (L0 := [vR kk, vI n]) (by decide) (Nat.le_of_ble_eq_true rfl) rfl rfl ?_
  intro p l e s m args below meth c D cy ad bs C
  refine k_aload_n (pc := 0) C dX0_init_0 rfl ?_
  refine k_objI (pc := 1) C ow_X0 rfl (by decide) (Nat.le_of_ble_eq_true rfl) dX0_init_1 ?_
  refine k_aload_n (pc := 4) C dX0_init_4 rfl ?_
  refine k_iconst (pc := 5) (v := -1) C dX0_init_5 (by decide) ?_
  refine k_putI (pc := 6) C pl_X0_9 hk hc rfl dX0_init_6 ?_
  refine k_aload_n (pc := 9) C dX0_init_9 rfl ?_
  refine k_iconst (pc := 10) (v := -1) C dX0_init_10 (by decide) ?_
  refine k_putI (pc := 11) C pl_X0_15 hk hc rfl dX0_init_11 ?_
  refine k_aload_n (pc := 14) C dX0_init_14 rfl ?_
  refine k_iconst (pc := 15) (v := -1) C dX0_init_15 (by decide) ?_
  refine k_putI (pc := 16) C pl_X0_18 hk hc rfl dX0_init_16 ?_
  refine k_aload_n (pc := 19) C dX0_init_19 rfl ?_
  refine k_iconst (pc := 20) (v := -1) C dX0_init_20 (by decide) ?_
  refine k_putI (pc := 21) C pl_X0_21 hk hc rfl dX0_init_21 ?_
  refine k_aload_n (pc := 24) C dX0_init_24 rfl ?_
  refine k_iconst (pc := 25) (v := -1) C dX0_init_25 (by decide) ?_
  refine k_putI (pc := 26) C pl_X0_24 hk hc rfl dX0_init_26 ?_
  refine k_aload_n (pc := 29) C dX0_init_29 rfl ?_
  refine k_iload_n (pc := 30) C dX0_init_30 rfl ?_
  refine k_putFI (pc := 31) C rfl pl_X0_27 hk hc rfl dX0_init_31 ?_
  exact k_vret (pc := 34) C rfl ⟨rfl, rfl, rfl⟩ dX0_init_34
theorem ct_X1_init {ks : List Ky} {mr : MemR} {mi : MemI} {ml : MemL} {kk : Ky} {n : Int32} (hk : kk ∈ ks) (hc : kk.1 = 1) : k_Ct ks mr Mt_X1_init 1 [vR kk, vI n] mi ml (k_rt none (k_ui mi kk 0 n) ml) := by
  refine k_ofV (L0 := [vR kk, vI n]) (by decide) (Nat.le_of_ble_eq_true rfl) rfl rfl ?_
  intro p l e s m args below meth c D cy ad bs C
  refine k_aload_n (pc := 0) C dX1_init_0 rfl ?_
  refine k_objI (pc := 1) C ow_X1 rfl (by decide) (Nat.le_of_ble_eq_true rfl) dX1_init_1 ?_
  refine k_aload_n (pc := 4) C dX1_init_4 rfl ?_
  refine k_iload_n (pc := 5) C dX1_init_5 rfl ?_
  refine k_putFI (pc := 6) C rfl pl_X1_9 hk hc rfl dX1_init_6 ?_
  exact k_vret (pc := 9) C rfl ⟨rfl, rfl, rfl⟩ dX1_init_9
def kS_0 : List Ky := []
theorem qcl0 : k_cl qR_z kS_0 := qcl_z
def kS_1 : List Ky := [(6, 0, 0)]
theorem kSe_1 : kS_0 ++ [(6, 0, 0)] = kS_1 := by decide +kernel
def qRi_X6 : MemR := qR_z
def qMi_X6 : MemI := qM_z
theorem qcli_X6 : k_cl qRi_X6 kS_1 := (kSe_1 ▸ k_cl_app (t := [(6, 0, 0)]) qcl0)
def kS_2 : List Ky := [(6, 0, 0), (2, 0, 0)]
theorem kSe_2 : kS_1 ++ [(2, 0, 0)] = kS_2 := by decide +kernel
def qRi_X2_0 : MemR := qRi_X6
def qMi_X2_0 : MemI := qMi_X6
theorem qcli_X2_0 : k_cl qRi_X2_0 kS_2 := (kSe_2 ▸ k_cl_app (t := [(2, 0, 0)]) qcli_X6)
def kS_3 : List Ky := [(6, 0, 0), (2, 0, 0), (11, 0, 0)]
theorem kSe_3 : kS_2 ++ [(11, 0, 0)] = kS_3 := by decide +kernel
def kS_4 : List Ky := [(6, 0, 0), (2, 0, 0), (11, 0, 0), (10, 0, 0)]
theorem kSe_4 : kS_3 ++ [(10, 0, 0)] = kS_4 := by decide +kernel
def kS_5 : List Ky := [(6, 0, 0), (2, 0, 0), (11, 0, 0), (10, 0, 0), (1, 0, 0)]
theorem kSe_5 : kS_4 ++ [(1, 0, 0)] = kS_5 := by decide +kernel
def kS_6 : List Ky := [(6, 0, 0), (2, 0, 0), (11, 0, 0), (10, 0, 0), (1, 0, 0), (1, 0, 1)]
theorem kSe_6 : kS_5 ++ [(1, 0, 1)] = kS_6 := by decide +kernel
def kS_7 : List Ky := [(6, 0, 0), (2, 0, 0), (11, 0, 0), (10, 0, 0), (1, 0, 0), (1, 0, 1), (1, 0, 2)]
theorem kSe_7 : kS_6 ++ [(1, 0, 2)] = kS_7 := by decide +kernel
def kS_8 : List Ky := [(6, 0, 0), (2, 0, 0), (11, 0, 0), (10, 0, 0), (1, 0, 0), (1, 0, 1), (1, 0, 2), (1, 0, 3)]
theorem kSe_8 : kS_7 ++ [(1, 0, 3)] = kS_8 := by decide +kernel
def kS_9 : List Ky := [(6, 0, 0), (2, 0, 0), (11, 0, 0), (10, 0, 0), (1, 0, 0), (1, 0, 1), (1, 0, 2), (1, 0, 3), (1, 0, 4)]
theorem kSe_9 : kS_8 ++ [(1, 0, 4)] = kS_9 := by decide +kernel
def kS_10 : List Ky := [(6, 0, 0), (2, 0, 0), (11, 0, 0), (10, 0, 0), (1, 0, 0), (1, 0, 1), (1, 0, 2), (1, 0, 3), (1, 0, 4), (1, 0, 5)]
theorem kSe_10 : kS_9 ++ [(1, 0, 5)] = kS_10 := by decide +kernel
def kS_11 : List Ky := [(6, 0, 0), (2, 0, 0), (11, 0, 0), (10, 0, 0), (1, 0, 0), (1, 0, 1), (1, 0, 2), (1, 0, 3), (1, 0, 4), (1, 0, 5), (0, 0, 0)]
theorem kSe_11 : kS_10 ++ [(0, 0, 0)] = kS_11 := by decide +kernel
def kS_12 : List Ky := [(6, 0, 0), (2, 0, 0), (11, 0, 0), (10, 0, 0), (1, 0, 0), (1, 0, 1), (1, 0, 2), (1, 0, 3), (1, 0, 4), (1, 0, 5), (0, 0, 0), (0, 0, 1)]
theorem kSe_12 : kS_11 ++ [(0, 0, 1)] = kS_12 := by decide +kernel
def kS_13 : List Ky := [(6, 0, 0), (2, 0, 0), (11, 0, 0), (10, 0, 0), (1, 0, 0), (1, 0, 1), (1, 0, 2), (1, 0, 3), (1, 0, 4), (1, 0, 5), (0, 0, 0), (0, 0, 1), (0, 0, 2)]
theorem kSe_13 : kS_12 ++ [(0, 0, 2)] = kS_13 := by decide +kernel
def kS_14 : List Ky := [(6, 0, 0), (2, 0, 0), (11, 0, 0), (10, 0, 0), (1, 0, 0), (1, 0, 1), (1, 0, 2), (1, 0, 3), (1, 0, 4), (1, 0, 5), (0, 0, 0), (0, 0, 1), (0, 0, 2), (0, 0, 3)]
theorem kSe_14 : kS_13 ++ [(0, 0, 3)] = kS_14 := by decide +kernel
def kS_15 : List Ky := [(6, 0, 0), (2, 0, 0), (11, 0, 0), (10, 0, 0), (1, 0, 0), (1, 0, 1), (1, 0, 2), (1, 0, 3), (1, 0, 4), (1, 0, 5), (0, 0, 0), (0, 0, 1), (0, 0, 2), (0, 0, 3), (0, 0, 4)]
theorem kSe_15 : kS_14 ++ [(0, 0, 4)] = kS_15 := by decide +kernel
def kS_16 : List Ky := [(6, 0, 0), (2, 0, 0), (11, 0, 0), (10, 0, 0), (1, 0, 0), (1, 0, 1), (1, 0, 2), (1, 0, 3), (1, 0, 4), (1, 0, 5), (0, 0, 0), (0, 0, 1), (0, 0, 2), (0, 0, 3), (0, 0, 4), (0, 0, 5)]
theorem kSe_16 : kS_15 ++ [(0, 0, 5)] = kS_16 := by decide +kernel
def qR_X2_0 : MemR := (k_ur (k_ur (k_ur (k_ur (k_ur (k_ur (k_ur (k_ur (k_ur (k_ur (k_ur (k_ur (k_ur (k_ur qRi_X2_0 (2, 0, 0) 0 (some (11, 0, 0))) (2, 0, 0) 1 (some (10, 0, 0))) (11, 0, 0) 0 (some (1, 0, 0))) (11, 0, 0) 1 (some (1, 0, 1))) (11, 0, 0) 2 (some (1, 0, 2))) (11, 0, 0) 3 (some (1, 0, 3))) (11, 0, 0) 4 (some (1, 0, 4))) (11, 0, 0) 5 (some (1, 0, 5))) (10, 0, 0) 0 (some (0, 0, 0))) (10, 0, 0) 1 (some (0, 0, 1))) (10, 0, 0) 2 (some (0, 0, 2))) (10, 0, 0) 3 (some (0, 0, 3))) (10, 0, 0) 4 (some (0, 0, 4))) (10, 0, 0) 5 (some (0, 0, 5)))
def qM_X2_0 : MemI := (k_ui (k_ui (k_ui (k_ui (k_ui (k_ui (k_ui (k_ui (k_ui (k_ui (k_ui (k_ui (k_ui (k_ui (k_ui (k_ui (k_ui (k_ui (k_ui (k_ui (k_ui (k_ui (k_ui (k_ui (k_ui (k_ui (k_ui (k_ui (k_ui (k_ui (k_ui (k_ui (k_ui (k_ui (k_ui (k_ui (k_ui (k_ui (k_ui (k_ui (k_ui (k_ui (k_ui qMi_X2_0 (2, 0, 0) 5 (nI 1)) (1, 0, 0) 0 (nI 0)) (1, 0, 1) 0 (nI 1)) (1, 0, 2) 0 (nI 2)) (1, 0, 3) 0 (nI 3)) (1, 0, 4) 0 (nI 4)) (1, 0, 5) 0 (nI 5)) (0, 0, 0) 5 (-1)) (0, 0, 0) 7 (-1)) (0, 0, 0) 9 (-1)) (0, 0, 0) 10 (-1)) (0, 0, 0) 11 (-1)) (0, 0, 0) 0 (nI 0)) (0, 0, 1) 5 (-1)) (0, 0, 1) 7 (-1)) (0, 0, 1) 9 (-1)) (0, 0, 1) 10 (-1)) (0, 0, 1) 11 (-1)) (0, 0, 1) 0 (nI 1)) (0, 0, 2) 5 (-1)) (0, 0, 2) 7 (-1)) (0, 0, 2) 9 (-1)) (0, 0, 2) 10 (-1)) (0, 0, 2) 11 (-1)) (0, 0, 2) 0 (nI 2)) (0, 0, 3) 5 (-1)) (0, 0, 3) 7 (-1)) (0, 0, 3) 9 (-1)) (0, 0, 3) 10 (-1)) (0, 0, 3) 11 (-1)) (0, 0, 3) 0 (nI 3)) (0, 0, 4) 5 (-1)) (0, 0, 4) 7 (-1)) (0, 0, 4) 9 (-1)) (0, 0, 4) 10 (-1)) (0, 0, 4) 11 (-1)) (0, 0, 4) 0 (nI 4)) (0, 0, 5) 5 (-1)) (0, 0, 5) 7 (-1)) (0, 0, 5) 9 (-1)) (0, 0, 5) 10 (-1)) (0, 0, 5) 11 (-1)) (0, 0, 5) 0 (nI 5))
theorem qcl_X2_0 : k_cl qR_X2_0 kS_16 := (k_cl_ur (k := (10, 0, 0)) (j := 5) (v := (0, 0, 5)) (kSe_16 ▸ k_cl_app (t := [(0, 0, 5)]) (k_cl_ur (k := (10, 0, 0)) (j := 4) (v := (0, 0, 4)) (kSe_15 ▸ k_cl_app (t := [(0, 0, 4)]) (k_cl_ur (k := (10, 0, 0)) (j := 3) (v := (0, 0, 3)) (kSe_14 ▸ k_cl_app (t := [(0, 0, 3)]) (k_cl_ur (k := (10, 0, 0)) (j := 2) (v := (0, 0, 2)) (kSe_13 ▸ k_cl_app (t := [(0, 0, 2)]) (k_cl_ur (k := (10, 0, 0)) (j := 1) (v := (0, 0, 1)) (kSe_12 ▸ k_cl_app (t := [(0, 0, 1)]) (k_cl_ur (k := (10, 0, 0)) (j := 0) (v := (0, 0, 0)) (kSe_11 ▸ k_cl_app (t := [(0, 0, 0)]) (k_cl_ur (k := (11, 0, 0)) (j := 5) (v := (1, 0, 5)) (kSe_10 ▸ k_cl_app (t := [(1, 0, 5)]) (k_cl_ur (k := (11, 0, 0)) (j := 4) (v := (1, 0, 4)) (kSe_9 ▸ k_cl_app (t := [(1, 0, 4)]) (k_cl_ur (k := (11, 0, 0)) (j := 3) (v := (1, 0, 3)) (kSe_8 ▸ k_cl_app (t := [(1, 0, 3)]) (k_cl_ur (k := (11, 0, 0)) (j := 2) (v := (1, 0, 2)) (kSe_7 ▸ k_cl_app (t := [(1, 0, 2)]) (k_cl_ur (k := (11, 0, 0)) (j := 1) (v := (1, 0, 1)) (kSe_6 ▸ k_cl_app (t := [(1, 0, 1)]) (k_cl_ur (k := (11, 0, 0)) (j := 0) (v := (1, 0, 0)) (kSe_5 ▸ k_cl_app (t := [(1, 0, 0)]) (k_cl_ur (k := (2, 0, 0)) (j := 1) (v := (10, 0, 0)) (kSe_4 ▸ k_cl_app (t := [(10, 0, 0)]) (k_cl_ur (k := (2, 0, 0)) (j := 0) (v := (11, 0, 0)) (kSe_3 ▸ k_cl_app (t := [(11, 0, 0)]) qcli_X2_0) (by decide +kernel))) (by decide +kernel))) (by decide +kernel))) (by decide +kernel))) (by decide +kernel))) (by decide +kernel))) (by decide +kernel))) (by decide +kernel))) (by decide +kernel))) (by decide +kernel))) (by decide +kernel))) (by decide +kernel))) (by decide +kernel))) (by decide +kernel))
theorem kSf_X2_0 : kS_2 ++ [(11, 0, 0), (10, 0, 0), (1, 0, 0), (1, 0, 1), (1, 0, 2), (1, 0, 3), (1, 0, 4), (1, 0, 5), (0, 0, 0), (0, 0, 1), (0, 0, 2), (0, 0, 3), (0, 0, 4), (0, 0, 5)] = kS_16 := by decide +kernel
set_option maxRecDepth 100000 in
theorem cn_X2_0 : k_Cn kS_2 [(11, 0, 0), (10, 0, 0), (1, 0, 0), (1, 0, 1), (1, 0, 2), (1, 0, 3), (1, 0, 4), (1, 0, 5), (0, 0, 0), (0, 0, 1), (0, 0, 2), (0, 0, 3), (0, 0, 4), (0, 0, 5)] Mt_X2_init 2 14 174 [vR (2, 0, 0)] qRi_X2_0 qMi_X2_0 qL_z qR_X2_0 qM_X2_0 qL_z := by
  refine k_ofVN (L0 := [vR (2, 0, 0), vU]) (by decide) (by decide) rfl rfl ?_
  intro p l e s m args below meth c D cy ad bs C
  have hag := k_ag_rf (ks := kS_2) (ad := ad)
  have hcl := qcli_X2_0
  refine k_aload_n (pc := 0) C dX2_init_0 rfl ?_
  refine k_objI (pc := 1) C ow_X2 rfl (by decide) (Nat.le_of_ble_eq_true rfl) dX2_init_1 ?_
  refine k_aload_n (pc := 4) C dX2_init_4 rfl ?_
  refine k_bipush (pc := 5) (v := (nI 6)) C dX2_init_5 (by decide) ?_
  refine k_newQ (pc := 7) C hcl (11, 0, 0) (N := 6) (t0 := 3) (E := RX1) (by decide) rfl (C.2.1.2.2.2.2.2.2.2.1) rfl rfl (by decide) (by decide +kernel) (fun _ => rfl) wl_X2_9 (k_vo_of (by decide +kernel)) (k_vo_of (by decide +kernel)) (by decide) (by decide) dX2_init_7 ?_
  intro ad1 ha1 C1
  rw [kSe_3] at C1 ⊢
  have hag2 := k_ag_sub (ks := kS_2) (by decide +kernel) hag ha1
  clear hag
  have hag := hag2
  clear hag2
  have hcl2 := k_cl_app (t := [(11, 0, 0)]) hcl
  rw [kSe_3] at hcl2
  clear hcl
  have hcl := hcl2
  clear hcl2
  clear C ha1
  have C := C1
  clear C1
  refine k_putFR (pc := 10) C rfl (Or.inr ⟨_, rfl⟩) pl_X2_11 (by decide +kernel) rfl rfl dX2_init_10 ?_
  have hcl2 := k_cl_ur (k := (2, 0, 0)) (j := 0) (v := (11, 0, 0)) hcl (by decide +kernel)
  clear hcl
  have hcl := hcl2
  clear hcl2
  refine k_aload_n (pc := 13) C dX2_init_13 rfl ?_
  refine k_bipush (pc := 14) (v := (nI 6)) C dX2_init_14 (by decide) ?_
  refine k_newQ (pc := 16) C hcl (10, 0, 0) (N := 6) (t0 := 2) (E := RX0) (by decide) rfl (C.2.1.2.2.2.2.2.2.1) rfl rfl (by decide) (by decide +kernel) (fun _ => rfl) wl_X2_17 (k_vo_of (by decide +kernel)) (k_vo_of (by decide +kernel)) (by decide) (by decide) dX2_init_16 ?_
  intro ad1 ha1 C1
  rw [kSe_4] at C1 ⊢
  have hag2 := k_ag_sub (ks := kS_2) (by decide +kernel) hag ha1
  clear hag
  have hag := hag2
  clear hag2
  have hcl2 := k_cl_app (t := [(10, 0, 0)]) hcl
  rw [kSe_4] at hcl2
  clear hcl
  have hcl := hcl2
  clear hcl2
  clear C ha1
  have C := C1
  clear C1
  refine k_putFR (pc := 19) C rfl (Or.inr ⟨_, rfl⟩) pl_X2_19 (by decide +kernel) rfl rfl dX2_init_19 ?_
  have hcl2 := k_cl_ur (k := (2, 0, 0)) (j := 1) (v := (10, 0, 0)) hcl (by decide +kernel)
  clear hcl
  have hcl := hcl2
  clear hcl2
  refine k_aload_n (pc := 22) C dX2_init_22 rfl ?_
  refine k_iconst (pc := 23) (v := (nI 1)) C dX2_init_23 (by decide) ?_
  refine k_putI (pc := 24) C pl_X2_23 (by decide +kernel) rfl rfl dX2_init_24 ?_
  refine k_iconst (pc := 27) (v := (nI 0)) C dX2_init_27 (by decide) ?_
  refine k_istore_1 (pc := 28) C dX2_init_28 rfl ?_
  refine k_iload_n (pc := 29) C dX2_init_29 rfl ?_
  refine k_aload_n (pc := 30) C dX2_init_30 rfl ?_
  refine k_getR (pc := 31) (r := some (11, 0, 0)) C fl_X2_11 (by decide +kernel) rfl rfl rfl dX2_init_31 ?_
  refine k_alen (pc := 34) (v := nI 6) C (by decide +kernel) (by decide) rfl dX2_init_34 ?_
  refine k_icmp_geF (pc := 35) C 58 dX2_init_35 (by decide) (by decide) ?_
  refine k_aload_n (pc := 38) C dX2_init_38 rfl ?_
  refine k_getR (pc := 39) (r := some (11, 0, 0)) C fl_X2_11 (by decide +kernel) rfl rfl rfl dX2_init_39 ?_
  refine k_iload_n (pc := 42) C dX2_init_42 rfl ?_
  refine k_newO (pc := 43) (kk := (1, 0, 0)) C hcl tyX1 cl_X1 rfl (by decide +kernel) (fun _ => rfl) (fun _ => rfl) tyX1_ok df_X1 wl_X2_9 wi_X1 wn_X1 (k_vo_of (by decide +kernel)) (k_vo_of (by decide +kernel)) (by decide) (by decide) dX2_init_43 ?_
  intro ad1 ha1 C1
  rw [kSe_5] at C1 ⊢
  have hag2 := k_ag_sub (ks := kS_2) (by decide +kernel) hag ha1
  clear hag
  have hag := hag2
  clear hag2
  have hcl2 := k_cl_app (t := [(1, 0, 0)]) hcl
  rw [kSe_5] at hcl2
  clear hcl
  have hcl := hcl2
  clear hcl2
  clear C ha1
  have C := C1
  clear C1
  refine k_dup (pc := 46) C dX2_init_46 rfl ?_
  refine k_iload_n (pc := 47) C dX2_init_47 rfl ?_
  refine k_callI (pc := 48) C cI_X2_27 (ct_X1_init (by decide +kernel) rfl) rfl rfl rfl (by decide) (by decide) rfl (Nat.le_of_ble_eq_true rfl) dX2_init_48 ?_
  refine k_aast (pc := 51) (j := 0) (t0 := 3) (q := (RX1, TX1, 15)) C (by decide +kernel) (by decide) rfl (by decide +kernel) (by decide) rfl (vp_in_nI (by decide) (by decide)) (by decide) dX2_init_51 ?_
  have hcl2 := k_cl_ur (k := (11, 0, 0)) (j := 0) (v := (1, 0, 0)) hcl (by decide +kernel)
  clear hcl
  have hcl := hcl2
  clear hcl2
  refine k_iinc_1 (pc := 52) (v := nI 1) C dX2_init_52 (by decide) rfl ?_
  refine k_goto (pc := 55) C 29 dX2_init_55 (by decide) ?_
  refine k_iload_n (pc := 29) C dX2_init_29 rfl ?_
  refine k_aload_n (pc := 30) C dX2_init_30 rfl ?_
  refine k_getR (pc := 31) (r := some (11, 0, 0)) C fl_X2_11 (by decide +kernel) rfl rfl rfl dX2_init_31 ?_
  refine k_alen (pc := 34) (v := nI 6) C (by decide +kernel) (by decide) rfl dX2_init_34 ?_
  refine k_icmp_geF (pc := 35) C 58 dX2_init_35 (by decide) (by decide) ?_
  refine k_aload_n (pc := 38) C dX2_init_38 rfl ?_
  refine k_getR (pc := 39) (r := some (11, 0, 0)) C fl_X2_11 (by decide +kernel) rfl rfl rfl dX2_init_39 ?_
  refine k_iload_n (pc := 42) C dX2_init_42 rfl ?_
  refine k_newO (pc := 43) (kk := (1, 0, 1)) C hcl tyX1 cl_X1 rfl (by decide +kernel) (fun _ => rfl) (fun _ => rfl) tyX1_ok df_X1 wl_X2_9 wi_X1 wn_X1 (k_vo_of (by decide +kernel)) (k_vo_of (by decide +kernel)) (by decide) (by decide) dX2_init_43 ?_
  intro ad1 ha1 C1
  rw [kSe_6] at C1 ⊢
  have hag2 := k_ag_sub (ks := kS_2) (by decide +kernel) hag ha1
  clear hag
  have hag := hag2
  clear hag2
  have hcl2 := k_cl_app (t := [(1, 0, 1)]) hcl
  rw [kSe_6] at hcl2
  clear hcl
  have hcl := hcl2
  clear hcl2
  clear C ha1
  have C := C1
  clear C1
  refine k_dup (pc := 46) C dX2_init_46 rfl ?_
  refine k_iload_n (pc := 47) C dX2_init_47 rfl ?_
  refine k_callI (pc := 48) C cI_X2_27 (ct_X1_init (by decide +kernel) rfl) rfl rfl rfl (by decide) (by decide) rfl (Nat.le_of_ble_eq_true rfl) dX2_init_48 ?_
  refine k_aast (pc := 51) (j := 1) (t0 := 3) (q := (RX1, TX1, 15)) C (by decide +kernel) (by decide) rfl (by decide +kernel) (by decide) rfl (vp_in_nI (by decide) (by decide)) (by decide) dX2_init_51 ?_
  have hcl2 := k_cl_ur (k := (11, 0, 0)) (j := 1) (v := (1, 0, 1)) hcl (by decide +kernel)
  clear hcl
  have hcl := hcl2
  clear hcl2
  refine k_iinc_1 (pc := 52) (v := nI 2) C dX2_init_52 (by decide) rfl ?_
  refine k_goto (pc := 55) C 29 dX2_init_55 (by decide) ?_
  refine k_iload_n (pc := 29) C dX2_init_29 rfl ?_
  refine k_aload_n (pc := 30) C dX2_init_30 rfl ?_
  refine k_getR (pc := 31) (r := some (11, 0, 0)) C fl_X2_11 (by decide +kernel) rfl rfl rfl dX2_init_31 ?_
  refine k_alen (pc := 34) (v := nI 6) C (by decide +kernel) (by decide) rfl dX2_init_34 ?_
  refine k_icmp_geF (pc := 35) C 58 dX2_init_35 (by decide) (by decide) ?_
  refine k_aload_n (pc := 38) C dX2_init_38 rfl ?_
  refine k_getR (pc := 39) (r := some (11, 0, 0)) C fl_X2_11 (by decide +kernel) rfl rfl rfl dX2_init_39 ?_
  refine k_iload_n (pc := 42) C dX2_init_42 rfl ?_
  refine k_newO (pc := 43) (kk := (1, 0, 2)) C hcl tyX1 cl_X1 rfl (by decide +kernel) (fun _ => rfl) (fun _ => rfl) tyX1_ok df_X1 wl_X2_9 wi_X1 wn_X1 (k_vo_of (by decide +kernel)) (k_vo_of (by decide +kernel)) (by decide) (by decide) dX2_init_43 ?_
  intro ad1 ha1 C1
  rw [kSe_7] at C1 ⊢
  have hag2 := k_ag_sub (ks := kS_2) (by decide +kernel) hag ha1
  clear hag
  have hag := hag2
  clear hag2
  have hcl2 := k_cl_app (t := [(1, 0, 2)]) hcl
  rw [kSe_7] at hcl2
  clear hcl
  have hcl := hcl2
  clear hcl2
  clear C ha1
  have C := C1
  clear C1
  refine k_dup (pc := 46) C dX2_init_46 rfl ?_
  refine k_iload_n (pc := 47) C dX2_init_47 rfl ?_
  refine k_callI (pc := 48) C cI_X2_27 (ct_X1_init (by decide +kernel) rfl) rfl rfl rfl (by decide) (by decide) rfl (Nat.le_of_ble_eq_true rfl) dX2_init_48 ?_
  refine k_aast (pc := 51) (j := 2) (t0 := 3) (q := (RX1, TX1, 15)) C (by decide +kernel) (by decide) rfl (by decide +kernel) (by decide) rfl (vp_in_nI (by decide) (by decide)) (by decide) dX2_init_51 ?_
  have hcl2 := k_cl_ur (k := (11, 0, 0)) (j := 2) (v := (1, 0, 2)) hcl (by decide +kernel)
  clear hcl
  have hcl := hcl2
  clear hcl2
  refine k_iinc_1 (pc := 52) (v := nI 3) C dX2_init_52 (by decide) rfl ?_
  refine k_goto (pc := 55) C 29 dX2_init_55 (by decide) ?_
  refine k_iload_n (pc := 29) C dX2_init_29 rfl ?_
  refine k_aload_n (pc := 30) C dX2_init_30 rfl ?_
  refine k_getR (pc := 31) (r := some (11, 0, 0)) C fl_X2_11 (by decide +kernel) rfl rfl rfl dX2_init_31 ?_
  refine k_alen (pc := 34) (v := nI 6) C (by decide +kernel) (by decide) rfl dX2_init_34 ?_
  refine k_icmp_geF (pc := 35) C 58 dX2_init_35 (by decide) (by decide) ?_
  refine k_aload_n (pc := 38) C dX2_init_38 rfl ?_
  refine k_getR (pc := 39) (r := some (11, 0, 0)) C fl_X2_11 (by decide +kernel) rfl rfl rfl dX2_init_39 ?_
  refine k_iload_n (pc := 42) C dX2_init_42 rfl ?_
  refine k_newO (pc := 43) (kk := (1, 0, 3)) C hcl tyX1 cl_X1 rfl (by decide +kernel) (fun _ => rfl) (fun _ => rfl) tyX1_ok df_X1 wl_X2_9 wi_X1 wn_X1 (k_vo_of (by decide +kernel)) (k_vo_of (by decide +kernel)) (by decide) (by decide) dX2_init_43 ?_
  intro ad1 ha1 C1
  rw [kSe_8] at C1 ⊢
  have hag2 := k_ag_sub (ks := kS_2) (by decide +kernel) hag ha1
  clear hag
  have hag := hag2
  clear hag2
  have hcl2 := k_cl_app (t := [(1, 0, 3)]) hcl
  rw [kSe_8] at hcl2
  clear hcl
  have hcl := hcl2
  clear hcl2
  clear C ha1
  have C := C1
  clear C1
  refine k_dup (pc := 46) C dX2_init_46 rfl ?_
  refine k_iload_n (pc := 47) C dX2_init_47 rfl ?_
  refine k_callI (pc := 48) C cI_X2_27 (ct_X1_init (by decide +kernel) rfl) rfl rfl rfl (by decide) (by decide) rfl (Nat.le_of_ble_eq_true rfl) dX2_init_48 ?_
  refine k_aast (pc := 51) (j := 3) (t0 := 3) (q := (RX1, TX1, 15)) C (by decide +kernel) (by decide) rfl (by decide +kernel) (by decide) rfl (vp_in_nI (by decide) (by decide)) (by decide) dX2_init_51 ?_
  have hcl2 := k_cl_ur (k := (11, 0, 0)) (j := 3) (v := (1, 0, 3)) hcl (by decide +kernel)
  clear hcl
  have hcl := hcl2
  clear hcl2
  refine k_iinc_1 (pc := 52) (v := nI 4) C dX2_init_52 (by decide) rfl ?_
  refine k_goto (pc := 55) C 29 dX2_init_55 (by decide) ?_
  refine k_iload_n (pc := 29) C dX2_init_29 rfl ?_
  refine k_aload_n (pc := 30) C dX2_init_30 rfl ?_
  refine k_getR (pc := 31) (r := some (11, 0, 0)) C fl_X2_11 (by decide +kernel) rfl rfl rfl dX2_init_31 ?_
  refine k_alen (pc := 34) (v := nI 6) C (by decide +kernel) (by decide) rfl dX2_init_34 ?_
  refine k_icmp_geF (pc := 35) C 58 dX2_init_35 (by decide) (by decide) ?_
  refine k_aload_n (pc := 38) C dX2_init_38 rfl ?_
  refine k_getR (pc := 39) (r := some (11, 0, 0)) C fl_X2_11 (by decide +kernel) rfl rfl rfl dX2_init_39 ?_
  refine k_iload_n (pc := 42) C dX2_init_42 rfl ?_
  refine k_newO (pc := 43) (kk := (1, 0, 4)) C hcl tyX1 cl_X1 rfl (by decide +kernel) (fun _ => rfl) (fun _ => rfl) tyX1_ok df_X1 wl_X2_9 wi_X1 wn_X1 (k_vo_of (by decide +kernel)) (k_vo_of (by decide +kernel)) (by decide) (by decide) dX2_init_43 ?_
  intro ad1 ha1 C1
  rw [kSe_9] at C1 ⊢
  have hag2 := k_ag_sub (ks := kS_2) (by decide +kernel) hag ha1
  clear hag
  have hag := hag2
  clear hag2
  have hcl2 := k_cl_app (t := [(1, 0, 4)]) hcl
  rw [kSe_9] at hcl2
  clear hcl
  have hcl := hcl2
  clear hcl2
  clear C ha1
  have C := C1
  clear C1
  refine k_dup (pc := 46) C dX2_init_46 rfl ?_
  refine k_iload_n (pc := 47) C dX2_init_47 rfl ?_
  refine k_callI (pc := 48) C cI_X2_27 (ct_X1_init (by decide +kernel) rfl) rfl rfl rfl (by decide) (by decide) rfl (Nat.le_of_ble_eq_true rfl) dX2_init_48 ?_
  refine k_aast (pc := 51) (j := 4) (t0 := 3) (q := (RX1, TX1, 15)) C (by decide +kernel) (by decide) rfl (by decide +kernel) (by decide) rfl (vp_in_nI (by decide) (by decide)) (by decide) dX2_init_51 ?_
  have hcl2 := k_cl_ur (k := (11, 0, 0)) (j := 4) (v := (1, 0, 4)) hcl (by decide +kernel)
  clear hcl
  have hcl := hcl2
  clear hcl2
  refine k_iinc_1 (pc := 52) (v := nI 5) C dX2_init_52 (by decide) rfl ?_
  refine k_goto (pc := 55) C 29 dX2_init_55 (by decide) ?_
  refine k_iload_n (pc := 29) C dX2_init_29 rfl ?_
  refine k_aload_n (pc := 30) C dX2_init_30 rfl ?_
  refine k_getR (pc := 31) (r := some (11, 0, 0)) C fl_X2_11 (by decide +kernel) rfl rfl rfl dX2_init_31 ?_
  refine k_alen (pc := 34) (v := nI 6) C (by decide +kernel) (by decide) rfl dX2_init_34 ?_
  refine k_icmp_geF (pc := 35) C 58 dX2_init_35 (by decide) (by decide) ?_
  refine k_aload_n (pc := 38) C dX2_init_38 rfl ?_
  refine k_getR (pc := 39) (r := some (11, 0, 0)) C fl_X2_11 (by decide +kernel) rfl rfl rfl dX2_init_39 ?_
  refine k_iload_n (pc := 42) C dX2_init_42 rfl ?_
  refine k_newO (pc := 43) (kk := (1, 0, 5)) C hcl tyX1 cl_X1 rfl (by decide +kernel) (fun _ => rfl) (fun _ => rfl) tyX1_ok df_X1 wl_X2_9 wi_X1 wn_X1 (k_vo_of (by decide +kernel)) (k_vo_of (by decide +kernel)) (by decide) (by decide) dX2_init_43 ?_
  intro ad1 ha1 C1
  rw [kSe_10] at C1 ⊢
  have hag2 := k_ag_sub (ks := kS_2) (by decide +kernel) hag ha1
  clear hag
  have hag := hag2
  clear hag2
  have hcl2 := k_cl_app (t := [(1, 0, 5)]) hcl
  rw [kSe_10] at hcl2
  clear hcl
  have hcl := hcl2
  clear hcl2
  clear C ha1
  have C := C1
  clear C1
  refine k_dup (pc := 46) C dX2_init_46 rfl ?_
  refine k_iload_n (pc := 47) C dX2_init_47 rfl ?_
  refine k_callI (pc := 48) C cI_X2_27 (ct_X1_init (by decide +kernel) rfl) rfl rfl rfl (by decide) (by decide) rfl (Nat.le_of_ble_eq_true rfl) dX2_init_48 ?_
  refine k_aast (pc := 51) (j := 5) (t0 := 3) (q := (RX1, TX1, 15)) C (by decide +kernel) (by decide) rfl (by decide +kernel) (by decide) rfl (vp_in_nI (by decide) (by decide)) (by decide) dX2_init_51 ?_
  have hcl2 := k_cl_ur (k := (11, 0, 0)) (j := 5) (v := (1, 0, 5)) hcl (by decide +kernel)
  clear hcl
  have hcl := hcl2
  clear hcl2
  refine k_iinc_1 (pc := 52) (v := nI 6) C dX2_init_52 (by decide) rfl ?_
  refine k_goto (pc := 55) C 29 dX2_init_55 (by decide) ?_
  refine k_iload_n (pc := 29) C dX2_init_29 rfl ?_
  refine k_aload_n (pc := 30) C dX2_init_30 rfl ?_
  refine k_getR (pc := 31) (r := some (11, 0, 0)) C fl_X2_11 (by decide +kernel) rfl rfl rfl dX2_init_31 ?_
  refine k_alen (pc := 34) (v := nI 6) C (by decide +kernel) (by decide) rfl dX2_init_34 ?_
  refine k_icmp_geT (pc := 35) C 58 dX2_init_35 (by decide) (by decide) ?_
  refine k_iconst (pc := 58) (v := (nI 0)) C dX2_init_58 (by decide) ?_
  refine k_istore_1 (pc := 59) C dX2_init_59 rfl ?_
  refine k_iload_n (pc := 60) C dX2_init_60 rfl ?_
  refine k_aload_n (pc := 61) C dX2_init_61 rfl ?_
  refine k_getR (pc := 62) (r := some (10, 0, 0)) C fl_X2_19 (by decide +kernel) rfl rfl rfl dX2_init_62 ?_
  refine k_alen (pc := 65) (v := nI 6) C (by decide +kernel) (by decide) rfl dX2_init_65 ?_
  refine k_icmp_geF (pc := 66) C 89 dX2_init_66 (by decide) (by decide) ?_
  refine k_aload_n (pc := 69) C dX2_init_69 rfl ?_
  refine k_getR (pc := 70) (r := some (10, 0, 0)) C fl_X2_19 (by decide +kernel) rfl rfl rfl dX2_init_70 ?_
  refine k_iload_n (pc := 73) C dX2_init_73 rfl ?_
  refine k_newO (pc := 74) (kk := (0, 0, 0)) C hcl tyX0 cl_X0 rfl (by decide +kernel) (fun _ => rfl) (fun _ => rfl) tyX0_ok df_X0 wl_X2_17 wi_X0 wn_X0 (k_vo_of (by decide +kernel)) (k_vo_of (by decide +kernel)) (by decide) (by decide) dX2_init_74 ?_
  intro ad1 ha1 C1
  rw [kSe_11] at C1 ⊢
  have hag2 := k_ag_sub (ks := kS_2) (by decide +kernel) hag ha1
  clear hag
  have hag := hag2
  clear hag2
  have hcl2 := k_cl_app (t := [(0, 0, 0)]) hcl
  rw [kSe_11] at hcl2
  clear hcl
  have hcl := hcl2
  clear hcl2
  clear C ha1
  have C := C1
  clear C1
  refine k_dup (pc := 77) C dX2_init_77 rfl ?_
  refine k_iload_n (pc := 78) C dX2_init_78 rfl ?_
  refine k_callI (pc := 79) C cI_X2_30 (ct_X0_init (by decide +kernel) rfl) rfl rfl rfl (by decide) (by decide) rfl (Nat.le_of_ble_eq_true rfl) dX2_init_79 ?_
  refine k_aast (pc := 82) (j := 0) (t0 := 2) (q := (RX0, TX0, 12)) C (by decide +kernel) (by decide) rfl (by decide +kernel) (by decide) rfl (vp_in_nI (by decide) (by decide)) (by decide) dX2_init_82 ?_
  have hcl2 := k_cl_ur (k := (10, 0, 0)) (j := 0) (v := (0, 0, 0)) hcl (by decide +kernel)
  clear hcl
  have hcl := hcl2
  clear hcl2
  refine k_iinc_1 (pc := 83) (v := nI 1) C dX2_init_83 (by decide) rfl ?_
  refine k_goto (pc := 86) C 60 dX2_init_86 (by decide) ?_
  refine k_iload_n (pc := 60) C dX2_init_60 rfl ?_
  refine k_aload_n (pc := 61) C dX2_init_61 rfl ?_
  refine k_getR (pc := 62) (r := some (10, 0, 0)) C fl_X2_19 (by decide +kernel) rfl rfl rfl dX2_init_62 ?_
  refine k_alen (pc := 65) (v := nI 6) C (by decide +kernel) (by decide) rfl dX2_init_65 ?_
  refine k_icmp_geF (pc := 66) C 89 dX2_init_66 (by decide) (by decide) ?_
  refine k_aload_n (pc := 69) C dX2_init_69 rfl ?_
  refine k_getR (pc := 70) (r := some (10, 0, 0)) C fl_X2_19 (by decide +kernel) rfl rfl rfl dX2_init_70 ?_
  refine k_iload_n (pc := 73) C dX2_init_73 rfl ?_
  refine k_newO (pc := 74) (kk := (0, 0, 1)) C hcl tyX0 cl_X0 rfl (by decide +kernel) (fun _ => rfl) (fun _ => rfl) tyX0_ok df_X0 wl_X2_17 wi_X0 wn_X0 (k_vo_of (by decide +kernel)) (k_vo_of (by decide +kernel)) (by decide) (by decide) dX2_init_74 ?_
  intro ad1 ha1 C1
  rw [kSe_12] at C1 ⊢
  have hag2 := k_ag_sub (ks := kS_2) (by decide +kernel) hag ha1
  clear hag
  have hag := hag2
  clear hag2
  have hcl2 := k_cl_app (t := [(0, 0, 1)]) hcl
  rw [kSe_12] at hcl2
  clear hcl
  have hcl := hcl2
  clear hcl2
  clear C ha1
  have C := C1
  clear C1
  refine k_dup (pc := 77) C dX2_init_77 rfl ?_
  refine k_iload_n (pc := 78) C dX2_init_78 rfl ?_
  refine k_callI (pc := 79) C cI_X2_30 (ct_X0_init (by decide +kernel) rfl) rfl rfl rfl (by decide) (by decide) rfl (Nat.le_of_ble_eq_true rfl) dX2_init_79 ?_
  refine k_aast (pc := 82) (j := 1) (t0 := 2) (q := (RX0, TX0, 12)) C (by decide +kernel) (by decide) rfl (by decide +kernel) (by decide) rfl (vp_in_nI (by decide) (by decide)) (by decide) dX2_init_82 ?_
  have hcl2 := k_cl_ur (k := (10, 0, 0)) (j := 1) (v := (0, 0, 1)) hcl (by decide +kernel)
  clear hcl
  have hcl := hcl2
  clear hcl2
  refine k_iinc_1 (pc := 83) (v := nI 2) C dX2_init_83 (by decide) rfl ?_
  refine k_goto (pc := 86) C 60 dX2_init_86 (by decide) ?_
  refine k_iload_n (pc := 60) C dX2_init_60 rfl ?_
  refine k_aload_n (pc := 61) C dX2_init_61 rfl ?_
  refine k_getR (pc := 62) (r := some (10, 0, 0)) C fl_X2_19 (by decide +kernel) rfl rfl rfl dX2_init_62 ?_
  refine k_alen (pc := 65) (v := nI 6) C (by decide +kernel) (by decide) rfl dX2_init_65 ?_
  refine k_icmp_geF (pc := 66) C 89 dX2_init_66 (by decide) (by decide) ?_
  refine k_aload_n (pc := 69) C dX2_init_69 rfl ?_
  refine k_getR (pc := 70) (r := some (10, 0, 0)) C fl_X2_19 (by decide +kernel) rfl rfl rfl dX2_init_70 ?_
  refine k_iload_n (pc := 73) C dX2_init_73 rfl ?_
  refine k_newO (pc := 74) (kk := (0, 0, 2)) C hcl tyX0 cl_X0 rfl (by decide +kernel) (fun _ => rfl) (fun _ => rfl) tyX0_ok df_X0 wl_X2_17 wi_X0 wn_X0 (k_vo_of (by decide +kernel)) (k_vo_of (by decide +kernel)) (by decide) (by decide) dX2_init_74 ?_
  intro ad1 ha1 C1
  rw [kSe_13] at C1 ⊢
  have hag2 := k_ag_sub (ks := kS_2) (by decide +kernel) hag ha1
  clear hag
  have hag := hag2
  clear hag2
  have hcl2 := k_cl_app (t := [(0, 0, 2)]) hcl
  rw [kSe_13] at hcl2
  clear hcl
  have hcl := hcl2
  clear hcl2
  clear C ha1
  have C := C1
  clear C1
  refine k_dup (pc := 77) C dX2_init_77 rfl ?_
  refine k_iload_n (pc := 78) C dX2_init_78 rfl ?_
  refine k_callI (pc := 79) C cI_X2_30 (ct_X0_init (by decide +kernel) rfl) rfl rfl rfl (by decide) (by decide) rfl (Nat.le_of_ble_eq_true rfl) dX2_init_79 ?_
  refine k_aast (pc := 82) (j := 2) (t0 := 2) (q := (RX0, TX0, 12)) C (by decide +kernel) (by decide) rfl (by decide +kernel) (by decide) rfl (vp_in_nI (by decide) (by decide)) (by decide) dX2_init_82 ?_
  have hcl2 := k_cl_ur (k := (10, 0, 0)) (j := 2) (v := (0, 0, 2)) hcl (by decide +kernel)
  clear hcl
  have hcl := hcl2
  clear hcl2
  refine k_iinc_1 (pc := 83) (v := nI 3) C dX2_init_83 (by decide) rfl ?_
  refine k_goto (pc := 86) C 60 dX2_init_86 (by decide) ?_
  refine k_iload_n (pc := 60) C dX2_init_60 rfl ?_
  refine k_aload_n (pc := 61) C dX2_init_61 rfl ?_
  refine k_getR (pc := 62) (r := some (10, 0, 0)) C fl_X2_19 (by decide +kernel) rfl rfl rfl dX2_init_62 ?_
  refine k_alen (pc := 65) (v := nI 6) C (by decide +kernel) (by decide) rfl dX2_init_65 ?_
  refine k_icmp_geF (pc := 66) C 89 dX2_init_66 (by decide) (by decide) ?_
  refine k_aload_n (pc := 69) C dX2_init_69 rfl ?_
  refine k_getR (pc := 70) (r := some (10, 0, 0)) C fl_X2_19 (by decide +kernel) rfl rfl rfl dX2_init_70 ?_
  refine k_iload_n (pc := 73) C dX2_init_73 rfl ?_
  refine k_newO (pc := 74) (kk := (0, 0, 3)) C hcl tyX0 cl_X0 rfl (by decide +kernel) (fun _ => rfl) (fun _ => rfl) tyX0_ok df_X0 wl_X2_17 wi_X0 wn_X0 (k_vo_of (by decide +kernel)) (k_vo_of (by decide +kernel)) (by decide) (by decide) dX2_init_74 ?_
  intro ad1 ha1 C1
  rw [kSe_14] at C1 ⊢
  have hag2 := k_ag_sub (ks := kS_2) (by decide +kernel) hag ha1
  clear hag
  have hag := hag2
  clear hag2
  have hcl2 := k_cl_app (t := [(0, 0, 3)]) hcl
  rw [kSe_14] at hcl2
  clear hcl
  have hcl := hcl2
  clear hcl2
  clear C ha1
  have C := C1
  clear C1
  refine k_dup (pc := 77) C dX2_init_77 rfl ?_
  refine k_iload_n (pc := 78) C dX2_init_78 rfl ?_
  refine k_callI (pc := 79) C cI_X2_30 (ct_X0_init (by decide +kernel) rfl) rfl rfl rfl (by decide) (by decide) rfl (Nat.le_of_ble_eq_true rfl) dX2_init_79 ?_
  refine k_aast (pc := 82) (j := 3) (t0 := 2) (q := (RX0, TX0, 12)) C (by decide +kernel) (by decide) rfl (by decide +kernel) (by decide) rfl (vp_in_nI (by decide) (by decide)) (by decide) dX2_init_82 ?_
  have hcl2 := k_cl_ur (k := (10, 0, 0)) (j := 3) (v := (0, 0, 3)) hcl (by decide +kernel)
  clear hcl
  have hcl := hcl2
  clear hcl2
  refine k_iinc_1 (pc := 83) (v := nI 4) C dX2_init_83 (by decide) rfl ?_
  refine k_goto (pc := 86) C 60 dX2_init_86 (by decide) ?_
  refine k_iload_n (pc := 60) C dX2_init_60 rfl ?_
  refine k_aload_n (pc := 61) C dX2_init_61 rfl ?_
  refine k_getR (pc := 62) (r := some (10, 0, 0)) C fl_X2_19 (by decide +kernel) rfl rfl rfl dX2_init_62 ?_
  refine k_alen (pc := 65) (v := nI 6) C (by decide +kernel) (by decide) rfl dX2_init_65 ?_
  refine k_icmp_geF (pc := 66) C 89 dX2_init_66 (by decide) (by decide) ?_
  refine k_aload_n (pc := 69) C dX2_init_69 rfl ?_
  refine k_getR (pc := 70) (r := some (10, 0, 0)) C fl_X2_19 (by decide +kernel) rfl rfl rfl dX2_init_70 ?_
  refine k_iload_n (pc := 73) C dX2_init_73 rfl ?_
  refine k_newO (pc := 74) (kk := (0, 0, 4)) C hcl tyX0 cl_X0 rfl (by decide +kernel) (fun _ => rfl) (fun _ => rfl) tyX0_ok df_X0 wl_X2_17 wi_X0 wn_X0 (k_vo_of (by decide +kernel)) (k_vo_of (by decide +kernel)) (by decide) (by decide) dX2_init_74 ?_
  intro ad1 ha1 C1
  rw [kSe_15] at C1 ⊢
  have hag2 := k_ag_sub (ks := kS_2) (by decide +kernel) hag ha1
  clear hag
  have hag := hag2
  clear hag2
  have hcl2 := k_cl_app (t := [(0, 0, 4)]) hcl
  rw [kSe_15] at hcl2
  clear hcl
  have hcl := hcl2
  clear hcl2
  clear C ha1
  have C := C1
  clear C1
  refine k_dup (pc := 77) C dX2_init_77 rfl ?_
  refine k_iload_n (pc := 78) C dX2_init_78 rfl ?_
  refine k_callI (pc := 79) C cI_X2_30 (ct_X0_init (by decide +kernel) rfl) rfl rfl rfl (by decide) (by decide) rfl (Nat.le_of_ble_eq_true rfl) dX2_init_79 ?_
  refine k_aast (pc := 82) (j := 4) (t0 := 2) (q := (RX0, TX0, 12)) C (by decide +kernel) (by decide) rfl (by decide +kernel) (by decide) rfl (vp_in_nI (by decide) (by decide)) (by decide) dX2_init_82 ?_
  have hcl2 := k_cl_ur (k := (10, 0, 0)) (j := 4) (v := (0, 0, 4)) hcl (by decide +kernel)
  clear hcl
  have hcl := hcl2
  clear hcl2
  refine k_iinc_1 (pc := 83) (v := nI 5) C dX2_init_83 (by decide) rfl ?_
  refine k_goto (pc := 86) C 60 dX2_init_86 (by decide) ?_
  refine k_iload_n (pc := 60) C dX2_init_60 rfl ?_
  refine k_aload_n (pc := 61) C dX2_init_61 rfl ?_
  refine k_getR (pc := 62) (r := some (10, 0, 0)) C fl_X2_19 (by decide +kernel) rfl rfl rfl dX2_init_62 ?_
  refine k_alen (pc := 65) (v := nI 6) C (by decide +kernel) (by decide) rfl dX2_init_65 ?_
  refine k_icmp_geF (pc := 66) C 89 dX2_init_66 (by decide) (by decide) ?_
  refine k_aload_n (pc := 69) C dX2_init_69 rfl ?_
  refine k_getR (pc := 70) (r := some (10, 0, 0)) C fl_X2_19 (by decide +kernel) rfl rfl rfl dX2_init_70 ?_
  refine k_iload_n (pc := 73) C dX2_init_73 rfl ?_
  refine k_newO (pc := 74) (kk := (0, 0, 5)) C hcl tyX0 cl_X0 rfl (by decide +kernel) (fun _ => rfl) (fun _ => rfl) tyX0_ok df_X0 wl_X2_17 wi_X0 wn_X0 (k_vo_of (by decide +kernel)) (k_vo_of (by decide +kernel)) (by decide) (by decide) dX2_init_74 ?_
  intro ad1 ha1 C1
  rw [kSe_16] at C1 ⊢
  have hag2 := k_ag_sub (ks := kS_2) (by decide +kernel) hag ha1
  clear hag
  have hag := hag2
  clear hag2
  have hcl2 := k_cl_app (t := [(0, 0, 5)]) hcl
  rw [kSe_16] at hcl2
  clear hcl
  have hcl := hcl2
  clear hcl2
  clear C ha1
  have C := C1
  clear C1
  refine k_dup (pc := 77) C dX2_init_77 rfl ?_
  refine k_iload_n (pc := 78) C dX2_init_78 rfl ?_
  refine k_callI (pc := 79) C cI_X2_30 (ct_X0_init (by decide +kernel) rfl) rfl rfl rfl (by decide) (by decide) rfl (Nat.le_of_ble_eq_true rfl) dX2_init_79 ?_
  refine k_aast (pc := 82) (j := 5) (t0 := 2) (q := (RX0, TX0, 12)) C (by decide +kernel) (by decide) rfl (by decide +kernel) (by decide) rfl (vp_in_nI (by decide) (by decide)) (by decide) dX2_init_82 ?_
  have hcl2 := k_cl_ur (k := (10, 0, 0)) (j := 5) (v := (0, 0, 5)) hcl (by decide +kernel)
  clear hcl
  have hcl := hcl2
  clear hcl2
  refine k_iinc_1 (pc := 83) (v := nI 6) C dX2_init_83 (by decide) rfl ?_
  refine k_goto (pc := 86) C 60 dX2_init_86 (by decide) ?_
  refine k_iload_n (pc := 60) C dX2_init_60 rfl ?_
  refine k_aload_n (pc := 61) C dX2_init_61 rfl ?_
  refine k_getR (pc := 62) (r := some (10, 0, 0)) C fl_X2_19 (by decide +kernel) rfl rfl rfl dX2_init_62 ?_
  refine k_alen (pc := 65) (v := nI 6) C (by decide +kernel) (by decide) rfl dX2_init_65 ?_
  refine k_icmp_geT (pc := 66) C 89 dX2_init_66 (by decide) (by decide) ?_
  rw [← kSf_X2_0] at C ⊢
  exact k_vretN (pc := 89) (mc := 14) (ms := 174) C rfl hag dX2_init_89
def kS_17 : List Ky := [(6, 0, 0), (2, 0, 0), (11, 0, 0), (10, 0, 0), (1, 0, 0), (1, 0, 1), (1, 0, 2), (1, 0, 3), (1, 0, 4), (1, 0, 5), (0, 0, 0), (0, 0, 1), (0, 0, 2), (0, 0, 3), (0, 0, 4), (0, 0, 5), (2, 1, 0)]
theorem kSe_17 : kS_16 ++ [(2, 1, 0)] = kS_17 := by decide +kernel
def qRi_X2_1 : MemR := (k_ur qR_X2_0 (6, 0, 0) 0 (some (2, 0, 0)))
def qMi_X2_1 : MemI := qM_X2_0
theorem qcli_X2_1 : k_cl qRi_X2_1 kS_17 := (kSe_17 ▸ k_cl_app (t := [(2, 1, 0)]) (k_cl_ur (k := (6, 0, 0)) (j := 0) (v := (2, 0, 0)) qcl_X2_0 (by decide +kernel)))
def kS_18 : List Ky := [(6, 0, 0), (2, 0, 0), (11, 0, 0), (10, 0, 0), (1, 0, 0), (1, 0, 1), (1, 0, 2), (1, 0, 3), (1, 0, 4), (1, 0, 5), (0, 0, 0), (0, 0, 1), (0, 0, 2), (0, 0, 3), (0, 0, 4), (0, 0, 5), (2, 1, 0), (11, 1, 0)]
theorem kSe_18 : kS_17 ++ [(11, 1, 0)] = kS_18 := by decide +kernel
def kS_19 : List Ky := [(6, 0, 0), (2, 0, 0), (11, 0, 0), (10, 0, 0), (1, 0, 0), (1, 0, 1), (1, 0, 2), (1, 0, 3), (1, 0, 4), (1, 0, 5), (0, 0, 0), (0, 0, 1), (0, 0, 2), (0, 0, 3), (0, 0, 4), (0, 0, 5), (2, 1, 0), (11, 1, 0), (10, 1, 0)]
theorem kSe_19 : kS_18 ++ [(10, 1, 0)] = kS_19 := by decide +kernel
def kS_20 : List Ky := [(6, 0, 0), (2, 0, 0), (11, 0, 0), (10, 0, 0), (1, 0, 0), (1, 0, 1), (1, 0, 2), (1, 0, 3), (1, 0, 4), (1, 0, 5), (0, 0, 0), (0, 0, 1), (0, 0, 2), (0, 0, 3), (0, 0, 4), (0, 0, 5), (2, 1, 0), (11, 1, 0), (10, 1, 0), (1, 1, 0)]
theorem kSe_20 : kS_19 ++ [(1, 1, 0)] = kS_20 := by decide +kernel
def kS_21 : List Ky := [(6, 0, 0), (2, 0, 0), (11, 0, 0), (10, 0, 0), (1, 0, 0), (1, 0, 1), (1, 0, 2), (1, 0, 3), (1, 0, 4), (1, 0, 5), (0, 0, 0), (0, 0, 1), (0, 0, 2), (0, 0, 3), (0, 0, 4), (0, 0, 5), (2, 1, 0), (11, 1, 0), (10, 1, 0), (1, 1, 0), (1, 1, 1)]
theorem kSe_21 : kS_20 ++ [(1, 1, 1)] = kS_21 := by decide +kernel
def kS_22 : List Ky := [(6, 0, 0), (2, 0, 0), (11, 0, 0), (10, 0, 0), (1, 0, 0), (1, 0, 1), (1, 0, 2), (1, 0, 3), (1, 0, 4), (1, 0, 5), (0, 0, 0), (0, 0, 1), (0, 0, 2), (0, 0, 3), (0, 0, 4), (0, 0, 5), (2, 1, 0), (11, 1, 0), (10, 1, 0), (1, 1, 0), (1, 1, 1), (1, 1, 2)]
theorem kSe_22 : kS_21 ++ [(1, 1, 2)] = kS_22 := by decide +kernel
def kS_23 : List Ky := [(6, 0, 0), (2, 0, 0), (11, 0, 0), (10, 0, 0), (1, 0, 0), (1, 0, 1), (1, 0, 2), (1, 0, 3), (1, 0, 4), (1, 0, 5), (0, 0, 0), (0, 0, 1), (0, 0, 2), (0, 0, 3), (0, 0, 4), (0, 0, 5), (2, 1, 0), (11, 1, 0), (10, 1, 0), (1, 1, 0), (1, 1, 1), (1, 1, 2), (1, 1, 3)]
theorem kSe_23 : kS_22 ++ [(1, 1, 3)] = kS_23 := by decide +kernel
def kS_24 : List Ky := [(6, 0, 0), (2, 0, 0), (11, 0, 0), (10, 0, 0), (1, 0, 0), (1, 0, 1), (1, 0, 2), (1, 0, 3), (1, 0, 4), (1, 0, 5), (0, 0, 0), (0, 0, 1), (0, 0, 2), (0, 0, 3), (0, 0, 4), (0, 0, 5), (2, 1, 0), (11, 1, 0), (10, 1, 0), (1, 1, 0), (1, 1, 1), (1, 1, 2), (1, 1, 3), (1, 1, 4)]
theorem kSe_24 : kS_23 ++ [(1, 1, 4)] = kS_24 := by decide +kernel
def kS_25 : List Ky := [(6, 0, 0), (2, 0, 0), (11, 0, 0), (10, 0, 0), (1, 0, 0), (1, 0, 1), (1, 0, 2), (1, 0, 3), (1, 0, 4), (1, 0, 5), (0, 0, 0), (0, 0, 1), (0, 0, 2), (0, 0, 3), (0, 0, 4), (0, 0, 5), (2, 1, 0), (11, 1, 0), (10, 1, 0), (1, 1, 0), (1, 1, 1), (1, 1, 2), (1, 1, 3), (1, 1, 4), (1, 1, 5)]
theorem kSe_25 : kS_24 ++ [(1, 1, 5)] = kS_25 := by decide +kernel
def kS_26 : List Ky := [(6, 0, 0), (2, 0, 0), (11, 0, 0), (10, 0, 0), (1, 0, 0), (1, 0, 1), (1, 0, 2), (1, 0, 3), (1, 0, 4), (1, 0, 5), (0, 0, 0), (0, 0, 1), (0, 0, 2), (0, 0, 3), (0, 0, 4), (0, 0, 5), (2, 1, 0), (11, 1, 0), (10, 1, 0), (1, 1, 0), (1, 1, 1), (1, 1, 2), (1, 1, 3), (1, 1, 4), (1, 1, 5), (0, 1, 0)]
theorem kSe_26 : kS_25 ++ [(0, 1, 0)] = kS_26 := by decide +kernel
def kS_27 : List Ky := [(6, 0, 0), (2, 0, 0), (11, 0, 0), (10, 0, 0), (1, 0, 0), (1, 0, 1), (1, 0, 2), (1, 0, 3), (1, 0, 4), (1, 0, 5), (0, 0, 0), (0, 0, 1), (0, 0, 2), (0, 0, 3), (0, 0, 4), (0, 0, 5), (2, 1, 0), (11, 1, 0), (10, 1, 0), (1, 1, 0), (1, 1, 1), (1, 1, 2), (1, 1, 3), (1, 1, 4), (1, 1, 5), (0, 1, 0), (0, 1, 1)]
theorem kSe_27 : kS_26 ++ [(0, 1, 1)] = kS_27 := by decide +kernel
def kS_28 : List Ky := [(6, 0, 0), (2, 0, 0), (11, 0, 0), (10, 0, 0), (1, 0, 0), (1, 0, 1), (1, 0, 2), (1, 0, 3), (1, 0, 4), (1, 0, 5), (0, 0, 0), (0, 0, 1), (0, 0, 2), (0, 0, 3), (0, 0, 4), (0, 0, 5), (2, 1, 0), (11, 1, 0), (10, 1, 0), (1, 1, 0), (1, 1, 1), (1, 1, 2), (1, 1, 3), (1, 1, 4), (1, 1, 5), (0, 1, 0), (0, 1, 1), (0, 1, 2)]
theorem kSe_28 : kS_27 ++ [(0, 1, 2)] = kS_28 := by decide +kernel
def kS_29 : List Ky := [(6, 0, 0), (2, 0, 0), (11, 0, 0), (10, 0, 0), (1, 0, 0), (1, 0, 1), (1, 0, 2), (1, 0, 3), (1, 0, 4), (1, 0, 5), (0, 0, 0), (0, 0, 1), (0, 0, 2), (0, 0, 3), (0, 0, 4), (0, 0, 5), (2, 1, 0), (11, 1, 0), (10, 1, 0), (1, 1, 0), (1, 1, 1), (1, 1, 2), (1, 1, 3), (1, 1, 4), (1, 1, 5), (0, 1, 0), (0, 1, 1), (0, 1, 2), (0, 1, 3)]
theorem kSe_29 : kS_28 ++ [(0, 1, 3)] = kS_29 := by decide +kernel
def kS_30 : List Ky := [(6, 0, 0), (2, 0, 0), (11, 0, 0), (10, 0, 0), (1, 0, 0), (1, 0, 1), (1, 0, 2), (1, 0, 3), (1, 0, 4), (1, 0, 5), (0, 0, 0), (0, 0, 1), (0, 0, 2), (0, 0, 3), (0, 0, 4), (0, 0, 5), (2, 1, 0), (11, 1, 0), (10, 1, 0), (1, 1, 0), (1, 1, 1), (1, 1, 2), (1, 1, 3), (1, 1, 4), (1, 1, 5), (0, 1, 0), (0, 1, 1), (0, 1, 2), (0, 1, 3), (0, 1, 4)]
theorem kSe_30 : kS_29 ++ [(0, 1, 4)] = kS_30 := by decide +kernel
def kS_31 : List Ky := [(6, 0, 0), (2, 0, 0), (11, 0, 0), (10, 0, 0), (1, 0, 0), (1, 0, 1), (1, 0, 2), (1, 0, 3), (1, 0, 4), (1, 0, 5), (0, 0, 0), (0, 0, 1), (0, 0, 2), (0, 0, 3), (0, 0, 4), (0, 0, 5), (2, 1, 0), (11, 1, 0), (10, 1, 0), (1, 1, 0), (1, 1, 1), (1, 1, 2), (1, 1, 3), (1, 1, 4), (1, 1, 5), (0, 1, 0), (0, 1, 1), (0, 1, 2), (0, 1, 3), (0, 1, 4), (0, 1, 5)]
theorem kSe_31 : kS_30 ++ [(0, 1, 5)] = kS_31 := by decide +kernel
def qR_X2_1 : MemR := (k_ur (k_ur (k_ur (k_ur (k_ur (k_ur (k_ur (k_ur (k_ur (k_ur (k_ur (k_ur (k_ur (k_ur qRi_X2_1 (2, 1, 0) 0 (some (11, 1, 0))) (2, 1, 0) 1 (some (10, 1, 0))) (11, 1, 0) 0 (some (1, 1, 0))) (11, 1, 0) 1 (some (1, 1, 1))) (11, 1, 0) 2 (some (1, 1, 2))) (11, 1, 0) 3 (some (1, 1, 3))) (11, 1, 0) 4 (some (1, 1, 4))) (11, 1, 0) 5 (some (1, 1, 5))) (10, 1, 0) 0 (some (0, 1, 0))) (10, 1, 0) 1 (some (0, 1, 1))) (10, 1, 0) 2 (some (0, 1, 2))) (10, 1, 0) 3 (some (0, 1, 3))) (10, 1, 0) 4 (some (0, 1, 4))) (10, 1, 0) 5 (some (0, 1, 5)))
def qM_X2_1 : MemI := (k_ui (k_ui (k_ui (k_ui (k_ui (k_ui (k_ui (k_ui (k_ui (k_ui (k_ui (k_ui (k_ui (k_ui (k_ui (k_ui (k_ui (k_ui (k_ui (k_ui (k_ui (k_ui (k_ui (k_ui (k_ui (k_ui (k_ui (k_ui (k_ui (k_ui (k_ui (k_ui (k_ui (k_ui (k_ui (k_ui (k_ui (k_ui (k_ui (k_ui (k_ui (k_ui (k_ui qMi_X2_1 (2, 1, 0) 5 (nI 1)) (1, 1, 0) 0 (nI 0)) (1, 1, 1) 0 (nI 1)) (1, 1, 2) 0 (nI 2)) (1, 1, 3) 0 (nI 3)) (1, 1, 4) 0 (nI 4)) (1, 1, 5) 0 (nI 5)) (0, 1, 0) 5 (-1)) (0, 1, 0) 7 (-1)) (0, 1, 0) 9 (-1)) (0, 1, 0) 10 (-1)) (0, 1, 0) 11 (-1)) (0, 1, 0) 0 (nI 0)) (0, 1, 1) 5 (-1)) (0, 1, 1) 7 (-1)) (0, 1, 1) 9 (-1)) (0, 1, 1) 10 (-1)) (0, 1, 1) 11 (-1)) (0, 1, 1) 0 (nI 1)) (0, 1, 2) 5 (-1)) (0, 1, 2) 7 (-1)) (0, 1, 2) 9 (-1)) (0, 1, 2) 10 (-1)) (0, 1, 2) 11 (-1)) (0, 1, 2) 0 (nI 2)) (0, 1, 3) 5 (-1)) (0, 1, 3) 7 (-1)) (0, 1, 3) 9 (-1)) (0, 1, 3) 10 (-1)) (0, 1, 3) 11 (-1)) (0, 1, 3) 0 (nI 3)) (0, 1, 4) 5 (-1)) (0, 1, 4) 7 (-1)) (0, 1, 4) 9 (-1)) (0, 1, 4) 10 (-1)) (0, 1, 4) 11 (-1)) (0, 1, 4) 0 (nI 4)) (0, 1, 5) 5 (-1)) (0, 1, 5) 7 (-1)) (0, 1, 5) 9 (-1)) (0, 1, 5) 10 (-1)) (0, 1, 5) 11 (-1)) (0, 1, 5) 0 (nI 5))
theorem qcl_X2_1 : k_cl qR_X2_1 kS_31 := (k_cl_ur (k := (10, 1, 0)) (j := 5) (v := (0, 1, 5)) (kSe_31 ▸ k_cl_app (t := [(0, 1, 5)]) (k_cl_ur (k := (10, 1, 0)) (j := 4) (v := (0, 1, 4)) (kSe_30 ▸ k_cl_app (t := [(0, 1, 4)]) (k_cl_ur (k := (10, 1, 0)) (j := 3) (v := (0, 1, 3)) (kSe_29 ▸ k_cl_app (t := [(0, 1, 3)]) (k_cl_ur (k := (10, 1, 0)) (j := 2) (v := (0, 1, 2)) (kSe_28 ▸ k_cl_app (t := [(0, 1, 2)]) (k_cl_ur (k := (10, 1, 0)) (j := 1) (v := (0, 1, 1)) (kSe_27 ▸ k_cl_app (t := [(0, 1, 1)]) (k_cl_ur (k := (10, 1, 0)) (j := 0) (v := (0, 1, 0)) (kSe_26 ▸ k_cl_app (t := [(0, 1, 0)]) (k_cl_ur (k := (11, 1, 0)) (j := 5) (v := (1, 1, 5)) (kSe_25 ▸ k_cl_app (t := [(1, 1, 5)]) (k_cl_ur (k := (11, 1, 0)) (j := 4) (v := (1, 1, 4)) (kSe_24 ▸ k_cl_app (t := [(1, 1, 4)]) (k_cl_ur (k := (11, 1, 0)) (j := 3) (v := (1, 1, 3)) (kSe_23 ▸ k_cl_app (t := [(1, 1, 3)]) (k_cl_ur (k := (11, 1, 0)) (j := 2) (v := (1, 1, 2)) (kSe_22 ▸ k_cl_app (t := [(1, 1, 2)]) (k_cl_ur (k := (11, 1, 0)) (j := 1) (v := (1, 1, 1)) (kSe_21 ▸ k_cl_app (t := [(1, 1, 1)]) (k_cl_ur (k := (11, 1, 0)) (j := 0) (v := (1, 1, 0)) (kSe_20 ▸ k_cl_app (t := [(1, 1, 0)]) (k_cl_ur (k := (2, 1, 0)) (j := 1) (v := (10, 1, 0)) (kSe_19 ▸ k_cl_app (t := [(10, 1, 0)]) (k_cl_ur (k := (2, 1, 0)) (j := 0) (v := (11, 1, 0)) (kSe_18 ▸ k_cl_app (t := [(11, 1, 0)]) qcli_X2_1) (by decide +kernel))) (by decide +kernel))) (by decide +kernel))) (by decide +kernel))) (by decide +kernel))) (by decide +kernel))) (by decide +kernel))) (by decide +kernel))) (by decide +kernel))) (by decide +kernel))) (by decide +kernel))) (by decide +kernel))) (by decide +kernel))) (by decide +kernel))
theorem kSf_X2_1 : kS_17 ++ [(11, 1, 0), (10, 1, 0), (1, 1, 0), (1, 1, 1), (1, 1, 2), (1, 1, 3), (1, 1, 4), (1, 1, 5), (0, 1, 0), (0, 1, 1), (0, 1, 2), (0, 1, 3), (0, 1, 4), (0, 1, 5)] = kS_31 := by decide +kernel
set_option maxRecDepth 100000 in
theorem cn_X2_1 : k_Cn kS_17 [(11, 1, 0), (10, 1, 0), (1, 1, 0), (1, 1, 1), (1, 1, 2), (1, 1, 3), (1, 1, 4), (1, 1, 5), (0, 1, 0), (0, 1, 1), (0, 1, 2), (0, 1, 3), (0, 1, 4), (0, 1, 5)] Mt_X2_init 2 14 174 [vR (2, 1, 0)] qRi_X2_1 qMi_X2_1 qL_z qR_X2_1 qM_X2_1 qL_z := by
  refine k_ofVN (L0 := [vR (2, 1, 0), vU]) (by decide) (by decide) rfl rfl ?_
  intro p l e s m args below meth c D cy ad bs C
  have hag := k_ag_rf (ks := kS_17) (ad := ad)
  have hcl := qcli_X2_1
  refine k_aload_n (pc := 0) C dX2_init_0 rfl ?_
  refine k_objI (pc := 1) C ow_X2 rfl (by decide) (Nat.le_of_ble_eq_true rfl) dX2_init_1 ?_
  refine k_aload_n (pc := 4) C dX2_init_4 rfl ?_
  refine k_bipush (pc := 5) (v := (nI 6)) C dX2_init_5 (by decide) ?_
  refine k_newQ (pc := 7) C hcl (11, 1, 0) (N := 6) (t0 := 3) (E := RX1) (by decide) rfl (C.2.1.2.2.2.2.2.2.2.1) rfl rfl (by decide) (by decide +kernel) (fun _ => rfl) wl_X2_9 (k_vo_of (by decide +kernel)) (k_vo_of (by decide +kernel)) (by decide) (by decide) dX2_init_7 ?_
  intro ad1 ha1 C1
  rw [kSe_18] at C1 ⊢
  have hag2 := k_ag_sub (ks := kS_17) (by decide +kernel) hag ha1
  clear hag
  have hag := hag2
  clear hag2
  have hcl2 := k_cl_app (t := [(11, 1, 0)]) hcl
  rw [kSe_18] at hcl2
  clear hcl
  have hcl := hcl2
  clear hcl2
  clear C ha1
  have C := C1
  clear C1
  refine k_putFR (pc := 10) C rfl (Or.inr ⟨_, rfl⟩) pl_X2_11 (by decide +kernel) rfl rfl dX2_init_10 ?_
  have hcl2 := k_cl_ur (k := (2, 1, 0)) (j := 0) (v := (11, 1, 0)) hcl (by decide +kernel)
  clear hcl
  have hcl := hcl2
  clear hcl2
  refine k_aload_n (pc := 13) C dX2_init_13 rfl ?_
  refine k_bipush (pc := 14) (v := (nI 6)) C dX2_init_14 (by decide) ?_
  refine k_newQ (pc := 16) C hcl (10, 1, 0) (N := 6) (t0 := 2) (E := RX0) (by decide) rfl (C.2.1.2.2.2.2.2.2.1) rfl rfl (by decide) (by decide +kernel) (fun _ => rfl) wl_X2_17 (k_vo_of (by decide +kernel)) (k_vo_of (by decide +kernel)) (by decide) (by decide) dX2_init_16 ?_
  intro ad1 ha1 C1
  rw [kSe_19] at C1 ⊢
  have hag2 := k_ag_sub (ks := kS_17) (by decide +kernel) hag ha1
  clear hag
  have hag := hag2
  clear hag2
  have hcl2 := k_cl_app (t := [(10, 1, 0)]) hcl
  rw [kSe_19] at hcl2
  clear hcl
  have hcl := hcl2
  clear hcl2
  clear C ha1
  have C := C1
  clear C1
  refine k_putFR (pc := 19) C rfl (Or.inr ⟨_, rfl⟩) pl_X2_19 (by decide +kernel) rfl rfl dX2_init_19 ?_
  have hcl2 := k_cl_ur (k := (2, 1, 0)) (j := 1) (v := (10, 1, 0)) hcl (by decide +kernel)
  clear hcl
  have hcl := hcl2
  clear hcl2
  refine k_aload_n (pc := 22) C dX2_init_22 rfl ?_
  refine k_iconst (pc := 23) (v := (nI 1)) C dX2_init_23 (by decide) ?_
  refine k_putI (pc := 24) C pl_X2_23 (by decide +kernel) rfl rfl dX2_init_24 ?_
  refine k_iconst (pc := 27) (v := (nI 0)) C dX2_init_27 (by decide) ?_
  refine k_istore_1 (pc := 28) C dX2_init_28 rfl ?_
  refine k_iload_n (pc := 29) C dX2_init_29 rfl ?_
  refine k_aload_n (pc := 30) C dX2_init_30 rfl ?_
  refine k_getR (pc := 31) (r := some (11, 1, 0)) C fl_X2_11 (by decide +kernel) rfl rfl rfl dX2_init_31 ?_
  refine k_alen (pc := 34) (v := nI 6) C (by decide +kernel) (by decide) rfl dX2_init_34 ?_
  refine k_icmp_geF (pc := 35) C 58 dX2_init_35 (by decide) (by decide) ?_
  refine k_aload_n (pc := 38) C dX2_init_38 rfl ?_
  refine k_getR (pc := 39) (r := some (11, 1, 0)) C fl_X2_11 (by decide +kernel) rfl rfl rfl dX2_init_39 ?_
  refine k_iload_n (pc := 42) C dX2_init_42 rfl ?_
  refine k_newO (pc := 43) (kk := (1, 1, 0)) C hcl tyX1 cl_X1 rfl (by decide +kernel) (fun _ => rfl) (fun _ => rfl) tyX1_ok df_X1 wl_X2_9 wi_X1 wn_X1 (k_vo_of (by decide +kernel)) (k_vo_of (by decide +kernel)) (by decide) (by decide) dX2_init_43 ?_
  intro ad1 ha1 C1
  rw [kSe_20] at C1 ⊢
  have hag2 := k_ag_sub (ks := kS_17) (by decide +kernel) hag ha1
  clear hag
  have hag := hag2
  clear hag2
  have hcl2 := k_cl_app (t := [(1, 1, 0)]) hcl
  rw [kSe_20] at hcl2
  clear hcl
  have hcl := hcl2
  clear hcl2
  clear C ha1
  have C := C1
  clear C1
  refine k_dup (pc := 46) C dX2_init_46 rfl ?_
  refine k_iload_n (pc := 47) C dX2_init_47 rfl ?_
  refine k_callI (pc := 48) C cI_X2_27 (ct_X1_init (by decide +kernel) rfl) rfl rfl rfl (by decide) (by decide) rfl (Nat.le_of_ble_eq_true rfl) dX2_init_48 ?_
  refine k_aast (pc := 51) (j := 0) (t0 := 3) (q := (RX1, TX1, 15)) C (by decide +kernel) (by decide) rfl (by decide +kernel) (by decide) rfl (vp_in_nI (by decide) (by decide)) (by decide) dX2_init_51 ?_
  have hcl2 := k_cl_ur (k := (11, 1, 0)) (j := 0) (v := (1, 1, 0)) hcl (by decide +kernel)
  clear hcl
  have hcl := hcl2
  clear hcl2
  refine k_iinc_1 (pc := 52) (v := nI 1) C dX2_init_52 (by decide) rfl ?_
  refine k_goto (pc := 55) C 29 dX2_init_55 (by decide) ?_
  refine k_iload_n (pc := 29) C dX2_init_29 rfl ?_
  refine k_aload_n (pc := 30) C dX2_init_30 rfl ?_
  refine k_getR (pc := 31) (r := some (11, 1, 0)) C fl_X2_11 (by decide +kernel) rfl rfl rfl dX2_init_31 ?_
  refine k_alen (pc := 34) (v := nI 6) C (by decide +kernel) (by decide) rfl dX2_init_34 ?_
  refine k_icmp_geF (pc := 35) C 58 dX2_init_35 (by decide) (by decide) ?_
  refine k_aload_n (pc := 38) C dX2_init_38 rfl ?_
  refine k_getR (pc := 39) (r := some (11, 1, 0)) C fl_X2_11 (by decide +kernel) rfl rfl rfl dX2_init_39 ?_
  refine k_iload_n (pc := 42) C dX2_init_42 rfl ?_
  refine k_newO (pc := 43) (kk := (1, 1, 1)) C hcl tyX1 cl_X1 rfl (by decide +kernel) (fun _ => rfl) (fun _ => rfl) tyX1_ok df_X1 wl_X2_9 wi_X1 wn_X1 (k_vo_of (by decide +kernel)) (k_vo_of (by decide +kernel)) (by decide) (by decide) dX2_init_43 ?_
  intro ad1 ha1 C1
  rw [kSe_21] at C1 ⊢
  have hag2 := k_ag_sub (ks := kS_17) (by decide +kernel) hag ha1
  clear hag
  have hag := hag2
  clear hag2
  have hcl2 := k_cl_app (t := [(1, 1, 1)]) hcl
  rw [kSe_21] at hcl2
  clear hcl
  have hcl := hcl2
  clear hcl2
  clear C ha1
  have C := C1
  clear C1
  refine k_dup (pc := 46) C dX2_init_46 rfl ?_
  refine k_iload_n (pc := 47) C dX2_init_47 rfl ?_
  refine k_callI (pc := 48) C cI_X2_27 (ct_X1_init (by decide +kernel) rfl) rfl rfl rfl (by decide) (by decide) rfl (Nat.le_of_ble_eq_true rfl) dX2_init_48 ?_
  refine k_aast (pc := 51) (j := 1) (t0 := 3) (q := (RX1, TX1, 15)) C (by decide +kernel) (by decide) rfl (by decide +kernel) (by decide) rfl (vp_in_nI (by decide) (by decide)) (by decide) dX2_init_51 ?_
  have hcl2 := k_cl_ur (k := (11, 1, 0)) (j := 1) (v := (1, 1, 1)) hcl (by decide +kernel)
  clear hcl
  have hcl := hcl2
  clear hcl2
  refine k_iinc_1 (pc := 52) (v := nI 2) C dX2_init_52 (by decide) rfl ?_
  refine k_goto (pc := 55) C 29 dX2_init_55 (by decide) ?_
  refine k_iload_n (pc := 29) C dX2_init_29 rfl ?_
  refine k_aload_n (pc := 30) C dX2_init_30 rfl ?_
  refine k_getR (pc := 31) (r := some (11, 1, 0)) C fl_X2_11 (by decide +kernel) rfl rfl rfl dX2_init_31 ?_
  refine k_alen (pc := 34) (v := nI 6) C (by decide +kernel) (by decide) rfl dX2_init_34 ?_
  refine k_icmp_geF (pc := 35) C 58 dX2_init_35 (by decide) (by decide) ?_
  refine k_aload_n (pc := 38) C dX2_init_38 rfl ?_
  refine k_getR (pc := 39) (r := some (11, 1, 0)) C fl_X2_11 (by decide +kernel) rfl rfl rfl dX2_init_39 ?_
  refine k_iload_n (pc := 42) C dX2_init_42 rfl ?_
  refine k_newO (pc := 43) (kk := (1, 1, 2)) C hcl tyX1 cl_X1 rfl (by decide +kernel) (fun _ => rfl) (fun _ => rfl) tyX1_ok df_X1 wl_X2_9 wi_X1 wn_X1 (k_vo_of (by decide +kernel)) (k_vo_of (by decide +kernel)) (by decide) (by decide) dX2_init_43 ?_
  intro ad1 ha1 C1
  rw [kSe_22] at C1 ⊢
  have hag2 := k_ag_sub (ks := kS_17) (by decide +kernel) hag ha1
  clear hag
  have hag := hag2
  clear hag2
  have hcl2 := k_cl_app (t := [(1, 1, 2)]) hcl
  rw [kSe_22] at hcl2
  clear hcl
  have hcl := hcl2
  clear hcl2
  clear C ha1
  have C := C1
  clear C1
  refine k_dup (pc := 46) C dX2_init_46 rfl ?_
  refine k_iload_n (pc := 47) C dX2_init_47 rfl ?_
  refine k_callI (pc := 48) C cI_X2_27 (ct_X1_init (by decide +kernel) rfl) rfl rfl rfl (by decide) (by decide) rfl (Nat.le_of_ble_eq_true rfl) dX2_init_48 ?_
  refine k_aast (pc := 51) (j := 2) (t0 := 3) (q := (RX1, TX1, 15)) C (by decide +kernel) (by decide) rfl (by decide +kernel) (by decide) rfl (vp_in_nI (by decide) (by decide)) (by decide) dX2_init_51 ?_
  have hcl2 := k_cl_ur (k := (11, 1, 0)) (j := 2) (v := (1, 1, 2)) hcl (by decide +kernel)
  clear hcl
  have hcl := hcl2
  clear hcl2
  refine k_iinc_1 (pc := 52) (v := nI 3) C dX2_init_52 (by decide) rfl ?_
  refine k_goto (pc := 55) C 29 dX2_init_55 (by decide) ?_
  refine k_iload_n (pc := 29) C dX2_init_29 rfl ?_
  refine k_aload_n (pc := 30) C dX2_init_30 rfl ?_
  refine k_getR (pc := 31) (r := some (11, 1, 0)) C fl_X2_11 (by decide +kernel) rfl rfl rfl dX2_init_31 ?_
  refine k_alen (pc := 34) (v := nI 6) C (by decide +kernel) (by decide) rfl dX2_init_34 ?_
  refine k_icmp_geF (pc := 35) C 58 dX2_init_35 (by decide) (by decide) ?_
  refine k_aload_n (pc := 38) C dX2_init_38 rfl ?_
  refine k_getR (pc := 39) (r := some (11, 1, 0)) C fl_X2_11 (by decide +kernel) rfl rfl rfl dX2_init_39 ?_
  refine k_iload_n (pc := 42) C dX2_init_42 rfl ?_
  refine k_newO (pc := 43) (kk := (1, 1, 3)) C hcl tyX1 cl_X1 rfl (by decide +kernel) (fun _ => rfl) (fun _ => rfl) tyX1_ok df_X1 wl_X2_9 wi_X1 wn_X1 (k_vo_of (by decide +kernel)) (k_vo_of (by decide +kernel)) (by decide) (by decide) dX2_init_43 ?_
  intro ad1 ha1 C1
  rw [kSe_23] at C1 ⊢
  have hag2 := k_ag_sub (ks := kS_17) (by decide +kernel) hag ha1
  clear hag
  have hag := hag2
  clear hag2
  have hcl2 := k_cl_app (t := [(1, 1, 3)]) hcl
  rw [kSe_23] at hcl2
  clear hcl
  have hcl := hcl2
  clear hcl2
  clear C ha1
  have C := C1
  clear C1
  refine k_dup (pc := 46) C dX2_init_46 rfl ?_
  refine k_iload_n (pc := 47) C dX2_init_47 rfl ?_
  refine k_callI (pc := 48) C cI_X2_27 (ct_X1_init (by decide +kernel) rfl) rfl rfl rfl (by decide) (by decide) rfl (Nat.le_of_ble_eq_true rfl) dX2_init_48 ?_
  refine k_aast (pc := 51) (j := 3) (t0 := 3) (q := (RX1, TX1, 15)) C (by decide +kernel) (by decide) rfl (by decide +kernel) (by decide) rfl (vp_in_nI (by decide) (by decide)) (by decide) dX2_init_51 ?_
  have hcl2 := k_cl_ur (k := (11, 1, 0)) (j := 3) (v := (1, 1, 3)) hcl (by decide +kernel)
  clear hcl
  have hcl := hcl2
  clear hcl2
  refine k_iinc_1 (pc := 52) (v := nI 4) C dX2_init_52 (by decide) rfl ?_
  refine k_goto (pc := 55) C 29 dX2_init_55 (by decide) ?_
  refine k_iload_n (pc := 29) C dX2_init_29 rfl ?_
  refine k_aload_n (pc := 30) C dX2_init_30 rfl ?_
  refine k_getR (pc := 31) (r := some (11, 1, 0)) C fl_X2_11 (by decide +kernel) rfl rfl rfl dX2_init_31 ?_
  refine k_alen (pc := 34) (v := nI 6) C (by decide +kernel) (by decide) rfl dX2_init_34 ?_
  refine k_icmp_geF (pc := 35) C 58 dX2_init_35 (by decide) (by decide) ?_
  refine k_aload_n (pc := 38) C dX2_init_38 rfl ?_
  refine k_getR (pc := 39) (r := some (11, 1, 0)) C fl_X2_11 (by decide +kernel) rfl rfl rfl dX2_init_39 ?_
  refine k_iload_n (pc := 42) C dX2_init_42 rfl ?_
  refine k_newO (pc := 43) (kk := (1, 1, 4)) C hcl tyX1 cl_X1 rfl (by decide +kernel) (fun _ => rfl) (fun _ => rfl) tyX1_ok df_X1 wl_X2_9 wi_X1 wn_X1 (k_vo_of (by decide +kernel)) (k_vo_of (by decide +kernel)) (by decide) (by decide) dX2_init_43 ?_
  intro ad1 ha1 C1
  rw [kSe_24] at C1 ⊢
  have hag2 := k_ag_sub (ks := kS_17) (by decide +kernel) hag ha1
  clear hag
  have hag := hag2
  clear hag2
  have hcl2 := k_cl_app (t := [(1, 1, 4)]) hcl
  rw [kSe_24] at hcl2
  clear hcl
  have hcl := hcl2
  clear hcl2
  clear C ha1
  have C := C1
  clear C1
  refine k_dup (pc := 46) C dX2_init_46 rfl ?_
  refine k_iload_n (pc := 47) C dX2_init_47 rfl ?_
  refine k_callI (pc := 48) C cI_X2_27 (ct_X1_init (by decide +kernel) rfl) rfl rfl rfl (by decide) (by decide) rfl (Nat.le_of_ble_eq_true rfl) dX2_init_48 ?_
  refine k_aast (pc := 51) (j := 4) (t0 := 3) (q := (RX1, TX1, 15)) C (by decide +kernel) (by decide) rfl (by decide +kernel) (by decide) rfl (vp_in_nI (by decide) (by decide)) (by decide) dX2_init_51 ?_
  have hcl2 := k_cl_ur (k := (11, 1, 0)) (j := 4) (v := (1, 1, 4)) hcl (by decide +kernel)
  clear hcl
  have hcl := hcl2
  clear hcl2
  refine k_iinc_1 (pc := 52) (v := nI 5) C dX2_init_52 (by decide) rfl ?_
  refine k_goto (pc := 55) C 29 dX2_init_55 (by decide) ?_
  refine k_iload_n (pc := 29) C dX2_init_29 rfl ?_
  refine k_aload_n (pc := 30) C dX2_init_30 rfl ?_
  refine k_getR (pc := 31) (r := some (11, 1, 0)) C fl_X2_11 (by decide +kernel) rfl rfl rfl dX2_init_31 ?_
  refine k_alen (pc := 34) (v := nI 6) C (by decide +kernel) (by decide) rfl dX2_init_34 ?_
  refine k_icmp_geF (pc := 35) C 58 dX2_init_35 (by decide) (by decide) ?_
  refine k_aload_n (pc := 38) C dX2_init_38 rfl ?_
  refine k_getR (pc := 39) (r := some (11, 1, 0)) C fl_X2_11 (by decide +kernel) rfl rfl rfl dX2_init_39 ?_
  refine k_iload_n (pc := 42) C dX2_init_42 rfl ?_
  refine k_newO (pc := 43) (kk := (1, 1, 5)) C hcl tyX1 cl_X1 rfl (by decide +kernel) (fun _ => rfl) (fun _ => rfl) tyX1_ok df_X1 wl_X2_9 wi_X1 wn_X1 (k_vo_of (by decide +kernel)) (k_vo_of (by decide +kernel)) (by decide) (by decide) dX2_init_43 ?_
  intro ad1 ha1 C1
  rw [kSe_25] at C1 ⊢
  have hag2 := k_ag_sub (ks := kS_17) (by decide +kernel) hag ha1
  clear hag
  have hag := hag2
  clear hag2
  have hcl2 := k_cl_app (t := [(1, 1, 5)]) hcl
  rw [kSe_25] at hcl2
  clear hcl
  have hcl := hcl2
  clear hcl2
  clear C ha1
  have C := C1
  clear C1
  refine k_dup (pc := 46) C dX2_init_46 rfl ?_
  refine k_iload_n (pc := 47) C dX2_init_47 rfl ?_
  refine k_callI (pc := 48) C cI_X2_27 (ct_X1_init (by decide +kernel) rfl) rfl rfl rfl (by decide) (by decide) rfl (Nat.le_of_ble_eq_true rfl) dX2_init_48 ?_
  refine k_aast (pc := 51) (j := 5) (t0 := 3) (q := (RX1, TX1, 15)) C (by decide +kernel) (by decide) rfl (by decide +kernel) (by decide) rfl (vp_in_nI (by decide) (by decide)) (by decide) dX2_init_51 ?_
  have hcl2 := k_cl_ur (k := (11, 1, 0)) (j := 5) (v := (1, 1, 5)) hcl (by decide +kernel)
  clear hcl
  have hcl := hcl2
  clear hcl2
  refine k_iinc_1 (pc := 52) (v := nI 6) C dX2_init_52 (by decide) rfl ?_
  refine k_goto (pc := 55) C 29 dX2_init_55 (by decide) ?_
  refine k_iload_n (pc := 29) C dX2_init_29 rfl ?_
  refine k_aload_n (pc := 30) C dX2_init_30 rfl ?_
  refine k_getR (pc := 31) (r := some (11, 1, 0)) C fl_X2_11 (by decide +kernel) rfl rfl rfl dX2_init_31 ?_
  refine k_alen (pc := 34) (v := nI 6) C (by decide +kernel) (by decide) rfl dX2_init_34 ?_
  refine k_icmp_geT (pc := 35) C 58 dX2_init_35 (by decide) (by decide) ?_
  refine k_iconst (pc := 58) (v := (nI 0)) C dX2_init_58 (by decide) ?_
  refine k_istore_1 (pc := 59) C dX2_init_59 rfl ?_
  refine k_iload_n (pc := 60) C dX2_init_60 rfl ?_
  refine k_aload_n (pc := 61) C dX2_init_61 rfl ?_
  refine k_getR (pc := 62) (r := some (10, 1, 0)) C fl_X2_19 (by decide +kernel) rfl rfl rfl dX2_init_62 ?_
  refine k_alen (pc := 65) (v := nI 6) C (by decide +kernel) (by decide) rfl dX2_init_65 ?_
  refine k_icmp_geF (pc := 66) C 89 dX2_init_66 (by decide) (by decide) ?_
  refine k_aload_n (pc := 69) C dX2_init_69 rfl ?_
  refine k_getR (pc := 70) (r := some (10, 1, 0)) C fl_X2_19 (by decide +kernel) rfl rfl rfl dX2_init_70 ?_
  refine k_iload_n (pc := 73) C dX2_init_73 rfl ?_
  refine k_newO (pc := 74) (kk := (0, 1, 0)) C hcl tyX0 cl_X0 rfl (by decide +kernel) (fun _ => rfl) (fun _ => rfl) tyX0_ok df_X0 wl_X2_17 wi_X0 wn_X0 (k_vo_of (by decide +kernel)) (k_vo_of (by decide +kernel)) (by decide) (by decide) dX2_init_74 ?_
  intro ad1 ha1 C1
  rw [kSe_26] at C1 ⊢
  have hag2 := k_ag_sub (ks := kS_17) (by decide +kernel) hag ha1
  clear hag
  have hag := hag2
  clear hag2
  have hcl2 := k_cl_app (t := [(0, 1, 0)]) hcl
  rw [kSe_26] at hcl2
  clear hcl
  have hcl := hcl2
  clear hcl2
  clear C ha1
  have C := C1
  clear C1
  refine k_dup (pc := 77) C dX2_init_77 rfl ?_
  refine k_iload_n (pc := 78) C dX2_init_78 rfl ?_
  refine k_callI (pc := 79) C cI_X2_30 (ct_X0_init (by decide +kernel) rfl) rfl rfl rfl (by decide) (by decide) rfl (Nat.le_of_ble_eq_true rfl) dX2_init_79 ?_
  refine k_aast (pc := 82) (j := 0) (t0 := 2) (q := (RX0, TX0, 12)) C (by decide +kernel) (by decide) rfl (by decide +kernel) (by decide) rfl (vp_in_nI (by decide) (by decide)) (by decide) dX2_init_82 ?_
  have hcl2 := k_cl_ur (k := (10, 1, 0)) (j := 0) (v := (0, 1, 0)) hcl (by decide +kernel)
  clear hcl
  have hcl := hcl2
  clear hcl2
  refine k_iinc_1 (pc := 83) (v := nI 1) C dX2_init_83 (by decide) rfl ?_
  refine k_goto (pc := 86) C 60 dX2_init_86 (by decide) ?_
  refine k_iload_n (pc := 60) C dX2_init_60 rfl ?_
  refine k_aload_n (pc := 61) C dX2_init_61 rfl ?_
  refine k_getR (pc := 62) (r := some (10, 1, 0)) C fl_X2_19 (by decide +kernel) rfl rfl rfl dX2_init_62 ?_
  refine k_alen (pc := 65) (v := nI 6) C (by decide +kernel) (by decide) rfl dX2_init_65 ?_
  refine k_icmp_geF (pc := 66) C 89 dX2_init_66 (by decide) (by decide) ?_
  refine k_aload_n (pc := 69) C dX2_init_69 rfl ?_
  refine k_getR (pc := 70) (r := some (10, 1, 0)) C fl_X2_19 (by decide +kernel) rfl rfl rfl dX2_init_70 ?_
  refine k_iload_n (pc := 73) C dX2_init_73 rfl ?_
  refine k_newO (pc := 74) (kk := (0, 1, 1)) C hcl tyX0 cl_X0 rfl (by decide +kernel) (fun _ => rfl) (fun _ => rfl) tyX0_ok df_X0 wl_X2_17 wi_X0 wn_X0 (k_vo_of (by decide +kernel)) (k_vo_of (by decide +kernel)) (by decide) (by decide) dX2_init_74 ?_
  intro ad1 ha1 C1
  rw [kSe_27] at C1 ⊢
  have hag2 := k_ag_sub (ks := kS_17) (by decide +kernel) hag ha1
  clear hag
  have hag := hag2
  clear hag2
  have hcl2 := k_cl_app (t := [(0, 1, 1)]) hcl
  rw [kSe_27] at hcl2
  clear hcl
  have hcl := hcl2
  clear hcl2
  clear C ha1
  have C := C1
  clear C1
  refine k_dup (pc := 77) C dX2_init_77 rfl ?_
  refine k_iload_n (pc := 78) C dX2_init_78 rfl ?_
  refine k_callI (pc := 79) C cI_X2_30 (ct_X0_init (by decide +kernel) rfl) rfl rfl rfl (by decide) (by decide) rfl (Nat.le_of_ble_eq_true rfl) dX2_init_79 ?_
  refine k_aast (pc := 82) (j := 1) (t0 := 2) (q := (RX0, TX0, 12)) C (by decide +kernel) (by decide) rfl (by decide +kernel) (by decide) rfl (vp_in_nI (by decide) (by decide)) (by decide) dX2_init_82 ?_
  have hcl2 := k_cl_ur (k := (10, 1, 0)) (j := 1) (v := (0, 1, 1)) hcl (by decide +kernel)
  clear hcl
  have hcl := hcl2
  clear hcl2
  refine k_iinc_1 (pc := 83) (v := nI 2) C dX2_init_83 (by decide) rfl ?_
  refine k_goto (pc := 86) C 60 dX2_init_86 (by decide) ?_
  refine k_iload_n (pc := 60) C dX2_init_60 rfl ?_
  refine k_aload_n (pc := 61) C dX2_init_61 rfl ?_
  refine k_getR (pc := 62) (r := some (10, 1, 0)) C fl_X2_19 (by decide +kernel) rfl rfl rfl dX2_init_62 ?_
  refine k_alen (pc := 65) (v := nI 6) C (by decide +kernel) (by decide) rfl dX2_init_65 ?_
  refine k_icmp_geF (pc := 66) C 89 dX2_init_66 (by decide) (by decide) ?_
  refine k_aload_n (pc := 69) C dX2_init_69 rfl ?_
  refine k_getR (pc := 70) (r := some (10, 1, 0)) C fl_X2_19 (by decide +kernel) rfl rfl rfl dX2_init_70 ?_
  refine k_iload_n (pc := 73) C dX2_init_73 rfl ?_
  refine k_newO (pc := 74) (kk := (0, 1, 2)) C hcl tyX0 cl_X0 rfl (by decide +kernel) (fun _ => rfl) (fun _ => rfl) tyX0_ok df_X0 wl_X2_17 wi_X0 wn_X0 (k_vo_of (by decide +kernel)) (k_vo_of (by decide +kernel)) (by decide) (by decide) dX2_init_74 ?_
  intro ad1 ha1 C1
  rw [kSe_28] at C1 ⊢
  have hag2 := k_ag_sub (ks := kS_17) (by decide +kernel) hag ha1
  clear hag
  have hag := hag2
  clear hag2
  have hcl2 := k_cl_app (t := [(0, 1, 2)]) hcl
  rw [kSe_28] at hcl2
  clear hcl
  have hcl := hcl2
  clear hcl2
  clear C ha1
  have C := C1
  clear C1
  refine k_dup (pc := 77) C dX2_init_77 rfl ?_
  refine k_iload_n (pc := 78) C dX2_init_78 rfl ?_
  refine k_callI (pc := 79) C cI_X2_30 (ct_X0_init (by decide +kernel) rfl) rfl rfl rfl (by decide) (by decide) rfl (Nat.le_of_ble_eq_true rfl) dX2_init_79 ?_
  refine k_aast (pc := 82) (j := 2) (t0 := 2) (q := (RX0, TX0, 12)) C (by decide +kernel) (by decide) rfl (by decide +kernel) (by decide) rfl (vp_in_nI (by decide) (by decide)) (by decide) dX2_init_82 ?_
  have hcl2 := k_cl_ur (k := (10, 1, 0)) (j := 2) (v := (0, 1, 2)) hcl (by decide +kernel)
  clear hcl
  have hcl := hcl2
  clear hcl2
  refine k_iinc_1 (pc := 83) (v := nI 3) C dX2_init_83 (by decide) rfl ?_
  refine k_goto (pc := 86) C 60 dX2_init_86 (by decide) ?_
  refine k_iload_n (pc := 60) C dX2_init_60 rfl ?_
  refine k_aload_n (pc := 61) C dX2_init_61 rfl ?_
  refine k_getR (pc := 62) (r := some (10, 1, 0)) C fl_X2_19 (by decide +kernel) rfl rfl rfl dX2_init_62 ?_
  refine k_alen (pc := 65) (v := nI 6) C (by decide +kernel) (by decide) rfl dX2_init_65 ?_
  refine k_icmp_geF (pc := 66) C 89 dX2_init_66 (by decide) (by decide) ?_
  refine k_aload_n (pc := 69) C dX2_init_69 rfl ?_
  refine k_getR (pc := 70) (r := some (10, 1, 0)) C fl_X2_19 (by decide +kernel) rfl rfl rfl dX2_init_70 ?_
  refine k_iload_n (pc := 73) C dX2_init_73 rfl ?_
  refine k_newO (pc := 74) (kk := (0, 1, 3)) C hcl tyX0 cl_X0 rfl (by decide +kernel) (fun _ => rfl) (fun _ => rfl) tyX0_ok df_X0 wl_X2_17 wi_X0 wn_X0 (k_vo_of (by decide +kernel)) (k_vo_of (by decide +kernel)) (by decide) (by decide) dX2_init_74 ?_
  intro ad1 ha1 C1
  rw [kSe_29] at C1 ⊢
  have hag2 := k_ag_sub (ks := kS_17) (by decide +kernel) hag ha1
  clear hag
  have hag := hag2
  clear hag2
  have hcl2 := k_cl_app (t := [(0, 1, 3)]) hcl
  rw [kSe_29] at hcl2
  clear hcl
  have hcl := hcl2
  clear hcl2
  clear C ha1
  have C := C1
  clear C1
  refine k_dup (pc := 77) C dX2_init_77 rfl ?_
  refine k_iload_n (pc := 78) C dX2_init_78 rfl ?_
  refine k_callI (pc := 79) C cI_X2_30 (ct_X0_init (by decide +kernel) rfl) rfl rfl rfl (by decide) (by decide) rfl (Nat.le_of_ble_eq_true rfl) dX2_init_79 ?_
  refine k_aast (pc := 82) (j := 3) (t0 := 2) (q := (RX0, TX0, 12)) C (by decide +kernel) (by decide) rfl (by decide +kernel) (by decide) rfl (vp_in_nI (by decide) (by decide)) (by decide) dX2_init_82 ?_
  have hcl2 := k_cl_ur (k := (10, 1, 0)) (j := 3) (v := (0, 1, 3)) hcl (by decide +kernel)
  clear hcl
  have hcl := hcl2
  clear hcl2
  refine k_iinc_1 (pc := 83) (v := nI 4) C dX2_init_83 (by decide) rfl ?_
  refine k_goto (pc := 86) C 60 dX2_init_86 (by decide) ?_
  refine k_iload_n (pc := 60) C dX2_init_60 rfl ?_
  refine k_aload_n (pc := 61) C dX2_init_61 rfl ?_
  refine k_getR (pc := 62) (r := some (10, 1, 0)) C fl_X2_19 (by decide +kernel) rfl rfl rfl dX2_init_62 ?_
  refine k_alen (pc := 65) (v := nI 6) C (by decide +kernel) (by decide) rfl dX2_init_65 ?_
  refine k_icmp_geF (pc := 66) C 89 dX2_init_66 (by decide) (by decide) ?_
  refine k_aload_n (pc := 69) C dX2_init_69 rfl ?_
  refine k_getR (pc := 70) (r := some (10, 1, 0)) C fl_X2_19 (by decide +kernel) rfl rfl rfl dX2_init_70 ?_
  refine k_iload_n (pc := 73) C dX2_init_73 rfl ?_
  refine k_newO (pc := 74) (kk := (0, 1, 4)) C hcl tyX0 cl_X0 rfl (by decide +kernel) (fun _ => rfl) (fun _ => rfl) tyX0_ok df_X0 wl_X2_17 wi_X0 wn_X0 (k_vo_of (by decide +kernel)) (k_vo_of (by decide +kernel)) (by decide) (by decide) dX2_init_74 ?_
  intro ad1 ha1 C1
  rw [kSe_30] at C1 ⊢
  have hag2 := k_ag_sub (ks := kS_17) (by decide +kernel) hag ha1
  clear hag
  have hag := hag2
  clear hag2
  have hcl2 := k_cl_app (t := [(0, 1, 4)]) hcl
  rw [kSe_30] at hcl2
  clear hcl
  have hcl := hcl2
  clear hcl2
  clear C ha1
  have C := C1
  clear C1
  refine k_dup (pc := 77) C dX2_init_77 rfl ?_
  refine k_iload_n (pc := 78) C dX2_init_78 rfl ?_
  refine k_callI (pc := 79) C cI_X2_30 (ct_X0_init (by decide +kernel) rfl) rfl rfl rfl (by decide) (by decide) rfl (Nat.le_of_ble_eq_true rfl) dX2_init_79 ?_
  refine k_aast (pc := 82) (j := 4) (t0 := 2) (q := (RX0, TX0, 12)) C (by decide +kernel) (by decide) rfl (by decide +kernel) (by decide) rfl (vp_in_nI (by decide) (by decide)) (by decide) dX2_init_82 ?_
  have hcl2 := k_cl_ur (k := (10, 1, 0)) (j := 4) (v := (0, 1, 4)) hcl (by decide +kernel)
  clear hcl
  have hcl := hcl2
  clear hcl2
  refine k_iinc_1 (pc := 83) (v := nI 5) C dX2_init_83 (by decide) rfl ?_
  refine k_goto (pc := 86) C 60 dX2_init_86 (by decide) ?_
  refine k_iload_n (pc := 60) C dX2_init_60 rfl ?_
  refine k_aload_n (pc := 61) C dX2_init_61 rfl ?_
  refine k_getR (pc := 62) (r := some (10, 1, 0)) C fl_X2_19 (by decide +kernel) rfl rfl rfl dX2_init_62 ?_
  refine k_alen (pc := 65) (v := nI 6) C (by decide +kernel) (by decide) rfl dX2_init_65 ?_
  refine k_icmp_geF (pc := 66) C 89 dX2_init_66 (by decide) (by decide) ?_
  refine k_aload_n (pc := 69) C dX2_init_69 rfl ?_
  refine k_getR (pc := 70) (r := some (10, 1, 0)) C fl_X2_19 (by decide +kernel) rfl rfl rfl dX2_init_70 ?_
  refine k_iload_n (pc := 73) C dX2_init_73 rfl ?_
  refine k_newO (pc := 74) (kk := (0, 1, 5)) C hcl tyX0 cl_X0 rfl (by decide +kernel) (fun _ => rfl) (fun _ => rfl) tyX0_ok df_X0 wl_X2_17 wi_X0 wn_X0 (k_vo_of (by decide +kernel)) (k_vo_of (by decide +kernel)) (by decide) (by decide) dX2_init_74 ?_
  intro ad1 ha1 C1
  rw [kSe_31] at C1 ⊢
  have hag2 := k_ag_sub (ks := kS_17) (by decide +kernel) hag ha1
  clear hag
  have hag := hag2
  clear hag2
  have hcl2 := k_cl_app (t := [(0, 1, 5)]) hcl
  rw [kSe_31] at hcl2
  clear hcl
  have hcl := hcl2
  clear hcl2
  clear C ha1
  have C := C1
  clear C1
  refine k_dup (pc := 77) C dX2_init_77 rfl ?_
  refine k_iload_n (pc := 78) C dX2_init_78 rfl ?_
  refine k_callI (pc := 79) C cI_X2_30 (ct_X0_init (by decide +kernel) rfl) rfl rfl rfl (by decide) (by decide) rfl (Nat.le_of_ble_eq_true rfl) dX2_init_79 ?_
  refine k_aast (pc := 82) (j := 5) (t0 := 2) (q := (RX0, TX0, 12)) C (by decide +kernel) (by decide) rfl (by decide +kernel) (by decide) rfl (vp_in_nI (by decide) (by decide)) (by decide) dX2_init_82 ?_
  have hcl2 := k_cl_ur (k := (10, 1, 0)) (j := 5) (v := (0, 1, 5)) hcl (by decide +kernel)
  clear hcl
  have hcl := hcl2
  clear hcl2
  refine k_iinc_1 (pc := 83) (v := nI 6) C dX2_init_83 (by decide) rfl ?_
  refine k_goto (pc := 86) C 60 dX2_init_86 (by decide) ?_
  refine k_iload_n (pc := 60) C dX2_init_60 rfl ?_
  refine k_aload_n (pc := 61) C dX2_init_61 rfl ?_
  refine k_getR (pc := 62) (r := some (10, 1, 0)) C fl_X2_19 (by decide +kernel) rfl rfl rfl dX2_init_62 ?_
  refine k_alen (pc := 65) (v := nI 6) C (by decide +kernel) (by decide) rfl dX2_init_65 ?_
  refine k_icmp_geT (pc := 66) C 89 dX2_init_66 (by decide) (by decide) ?_
  rw [← kSf_X2_1] at C ⊢
  exact k_vretN (pc := 89) (mc := 14) (ms := 174) C rfl hag dX2_init_89
def kS_32 : List Ky := [(6, 0, 0), (2, 0, 0), (11, 0, 0), (10, 0, 0), (1, 0, 0), (1, 0, 1), (1, 0, 2), (1, 0, 3), (1, 0, 4), (1, 0, 5), (0, 0, 0), (0, 0, 1), (0, 0, 2), (0, 0, 3), (0, 0, 4), (0, 0, 5), (2, 1, 0), (11, 1, 0), (10, 1, 0), (1, 1, 0), (1, 1, 1), (1, 1, 2), (1, 1, 3), (1, 1, 4), (1, 1, 5), (0, 1, 0), (0, 1, 1), (0, 1, 2), (0, 1, 3), (0, 1, 4), (0, 1, 5), (2, 2, 0)]
theorem kSe_32 : kS_31 ++ [(2, 2, 0)] = kS_32 := by decide +kernel
def qRi_X2_2 : MemR := (k_ur qR_X2_1 (6, 0, 0) 1 (some (2, 1, 0)))
def qMi_X2_2 : MemI := qM_X2_1
theorem qcli_X2_2 : k_cl qRi_X2_2 kS_32 := (kSe_32 ▸ k_cl_app (t := [(2, 2, 0)]) (k_cl_ur (k := (6, 0, 0)) (j := 1) (v := (2, 1, 0)) qcl_X2_1 (by decide +kernel)))
def kS_33 : List Ky := [(6, 0, 0), (2, 0, 0), (11, 0, 0), (10, 0, 0), (1, 0, 0), (1, 0, 1), (1, 0, 2), (1, 0, 3), (1, 0, 4), (1, 0, 5), (0, 0, 0), (0, 0, 1), (0, 0, 2), (0, 0, 3), (0, 0, 4), (0, 0, 5), (2, 1, 0), (11, 1, 0), (10, 1, 0), (1, 1, 0), (1, 1, 1), (1, 1, 2), (1, 1, 3), (1, 1, 4), (1, 1, 5), (0, 1, 0), (0, 1, 1), (0, 1, 2), (0, 1, 3), (0, 1, 4), (0, 1, 5), (2, 2, 0), (11, 2, 0)]
theorem kSe_33 : kS_32 ++ [(11, 2, 0)] = kS_33 := by decide +kernel
def kS_34 : List Ky := [(6, 0, 0), (2, 0, 0), (11, 0, 0), (10, 0, 0), (1, 0, 0), (1, 0, 1), (1, 0, 2), (1, 0, 3), (1, 0, 4), (1, 0, 5), (0, 0, 0), (0, 0, 1), (0, 0, 2), (0, 0, 3), (0, 0, 4), (0, 0, 5), (2, 1, 0), (11, 1, 0), (10, 1, 0), (1, 1, 0), (1, 1, 1), (1, 1, 2), (1, 1, 3), (1, 1, 4), (1, 1, 5), (0, 1, 0), (0, 1, 1), (0, 1, 2), (0, 1, 3), (0, 1, 4), (0, 1, 5), (2, 2, 0), (11, 2, 0), (10, 2, 0)]
theorem kSe_34 : kS_33 ++ [(10, 2, 0)] = kS_34 := by decide +kernel
def kS_35 : List Ky := [(6, 0, 0), (2, 0, 0), (11, 0, 0), (10, 0, 0), (1, 0, 0), (1, 0, 1), (1, 0, 2), (1, 0, 3), (1, 0, 4), (1, 0, 5), (0, 0, 0), (0, 0, 1), (0, 0, 2), (0, 0, 3), (0, 0, 4), (0, 0, 5), (2, 1, 0), (11, 1, 0), (10, 1, 0), (1, 1, 0), (1, 1, 1), (1, 1, 2), (1, 1, 3), (1, 1, 4), (1, 1, 5), (0, 1, 0), (0, 1, 1), (0, 1, 2), (0, 1, 3), (0, 1, 4), (0, 1, 5), (2, 2, 0), (11, 2, 0), (10, 2, 0), (1, 2, 0)]
theorem kSe_35 : kS_34 ++ [(1, 2, 0)] = kS_35 := by decide +kernel
def kS_36 : List Ky := [(6, 0, 0), (2, 0, 0), (11, 0, 0), (10, 0, 0), (1, 0, 0), (1, 0, 1), (1, 0, 2), (1, 0, 3), (1, 0, 4), (1, 0, 5), (0, 0, 0), (0, 0, 1), (0, 0, 2), (0, 0, 3), (0, 0, 4), (0, 0, 5), (2, 1, 0), (11, 1, 0), (10, 1, 0), (1, 1, 0), (1, 1, 1), (1, 1, 2), (1, 1, 3), (1, 1, 4), (1, 1, 5), (0, 1, 0), (0, 1, 1), (0, 1, 2), (0, 1, 3), (0, 1, 4), (0, 1, 5), (2, 2, 0), (11, 2, 0), (10, 2, 0), (1, 2, 0), (1, 2, 1)]
theorem kSe_36 : kS_35 ++ [(1, 2, 1)] = kS_36 := by decide +kernel
def kS_37 : List Ky := [(6, 0, 0), (2, 0, 0), (11, 0, 0), (10, 0, 0), (1, 0, 0), (1, 0, 1), (1, 0, 2), (1, 0, 3), (1, 0, 4), (1, 0, 5), (0, 0, 0), (0, 0, 1), (0, 0, 2), (0, 0, 3), (0, 0, 4), (0, 0, 5), (2, 1, 0), (11, 1, 0), (10, 1, 0), (1, 1, 0), (1, 1, 1), (1, 1, 2), (1, 1, 3), (1, 1, 4), (1, 1, 5), (0, 1, 0), (0, 1, 1), (0, 1, 2), (0, 1, 3), (0, 1, 4), (0, 1, 5), (2, 2, 0), (11, 2, 0), (10, 2, 0), (1, 2, 0), (1, 2, 1), (1, 2, 2)]
theorem kSe_37 : kS_36 ++ [(1, 2, 2)] = kS_37 := by decide +kernel
def kS_38 : List Ky := [(6, 0, 0), (2, 0, 0), (11, 0, 0), (10, 0, 0), (1, 0, 0), (1, 0, 1), (1, 0, 2), (1, 0, 3), (1, 0, 4), (1, 0, 5), (0, 0, 0), (0, 0, 1), (0, 0, 2), (0, 0, 3), (0, 0, 4), (0, 0, 5), (2, 1, 0), (11, 1, 0), (10, 1, 0), (1, 1, 0), (1, 1, 1), (1, 1, 2), (1, 1, 3), (1, 1, 4), (1, 1, 5), (0, 1, 0), (0, 1, 1), (0, 1, 2), (0, 1, 3), (0, 1, 4), (0, 1, 5), (2, 2, 0), (11, 2, 0), (10, 2, 0), (1, 2, 0), (1, 2, 1), (1, 2, 2), (1, 2, 3)]
theorem kSe_38 : kS_37 ++ [(1, 2, 3)] = kS_38 := by decide +kernel
def kS_39 : List Ky := [(6, 0, 0), (2, 0, 0), (11, 0, 0), (10, 0, 0), (1, 0, 0), (1, 0, 1), (1, 0, 2), (1, 0, 3), (1, 0, 4), (1, 0, 5), (0, 0, 0), (0, 0, 1), (0, 0, 2), (0, 0, 3), (0, 0, 4), (0, 0, 5), (2, 1, 0), (11, 1, 0), (10, 1, 0), (1, 1, 0), (1, 1, 1), (1, 1, 2), (1, 1, 3), (1, 1, 4), (1, 1, 5), (0, 1, 0), (0, 1, 1), (0, 1, 2), (0, 1, 3), (0, 1, 4), (0, 1, 5), (2, 2, 0), (11, 2, 0), (10, 2, 0), (1, 2, 0), (1, 2, 1), (1, 2, 2), (1, 2, 3), (1, 2, 4)]
theorem kSe_39 : kS_38 ++ [(1, 2, 4)] = kS_39 := by decide +kernel
def kS_40 : List Ky := [(6, 0, 0), (2, 0, 0), (11, 0, 0), (10, 0, 0), (1, 0, 0), (1, 0, 1), (1, 0, 2), (1, 0, 3), (1, 0, 4), (1, 0, 5), (0, 0, 0), (0, 0, 1), (0, 0, 2), (0, 0, 3), (0, 0, 4), (0, 0, 5), (2, 1, 0), (11, 1, 0), (10, 1, 0), (1, 1, 0), (1, 1, 1), (1, 1, 2), (1, 1, 3), (1, 1, 4), (1, 1, 5), (0, 1, 0), (0, 1, 1), (0, 1, 2), (0, 1, 3), (0, 1, 4), (0, 1, 5), (2, 2, 0), (11, 2, 0), (10, 2, 0), (1, 2, 0), (1, 2, 1), (1, 2, 2), (1, 2, 3), (1, 2, 4), (1, 2, 5)]
theorem kSe_40 : kS_39 ++ [(1, 2, 5)] = kS_40 := by decide +kernel
def kS_41 : List Ky := [(6, 0, 0), (2, 0, 0), (11, 0, 0), (10, 0, 0), (1, 0, 0), (1, 0, 1), (1, 0, 2), (1, 0, 3), (1, 0, 4), (1, 0, 5), (0, 0, 0), (0, 0, 1), (0, 0, 2), (0, 0, 3), (0, 0, 4), (0, 0, 5), (2, 1, 0), (11, 1, 0), (10, 1, 0), (1, 1, 0), (1, 1, 1), (1, 1, 2), (1, 1, 3), (1, 1, 4), (1, 1, 5), (0, 1, 0), (0, 1, 1), (0, 1, 2), (0, 1, 3), (0, 1, 4), (0, 1, 5), (2, 2, 0), (11, 2, 0), (10, 2, 0), (1, 2, 0), (1, 2, 1), (1, 2, 2), (1, 2, 3), (1, 2, 4), (1, 2, 5), (0, 2, 0)]
theorem kSe_41 : kS_40 ++ [(0, 2, 0)] = kS_41 := by decide +kernel
def kS_42 : List Ky := [(6, 0, 0), (2, 0, 0), (11, 0, 0), (10, 0, 0), (1, 0, 0), (1, 0, 1), (1, 0, 2), (1, 0, 3), (1, 0, 4), (1, 0, 5), (0, 0, 0), (0, 0, 1), (0, 0, 2), (0, 0, 3), (0, 0, 4), (0, 0, 5), (2, 1, 0), (11, 1, 0), (10, 1, 0), (1, 1, 0), (1, 1, 1), (1, 1, 2), (1, 1, 3), (1, 1, 4), (1, 1, 5), (0, 1, 0), (0, 1, 1), (0, 1, 2), (0, 1, 3), (0, 1, 4), (0, 1, 5), (2, 2, 0), (11, 2, 0), (10, 2, 0), (1, 2, 0), (1, 2, 1), (1, 2, 2), (1, 2, 3), (1, 2, 4), (1, 2, 5), (0, 2, 0), (0, 2, 1)]
theorem kSe_42 : kS_41 ++ [(0, 2, 1)] = kS_42 := by decide +kernel
def kS_43 : List Ky := [(6, 0, 0), (2, 0, 0), (11, 0, 0), (10, 0, 0), (1, 0, 0), (1, 0, 1), (1, 0, 2), (1, 0, 3), (1, 0, 4), (1, 0, 5), (0, 0, 0), (0, 0, 1), (0, 0, 2), (0, 0, 3), (0, 0, 4), (0, 0, 5), (2, 1, 0), (11, 1, 0), (10, 1, 0), (1, 1, 0), (1, 1, 1), (1, 1, 2), (1, 1, 3), (1, 1, 4), (1, 1, 5), (0, 1, 0), (0, 1, 1), (0, 1, 2), (0, 1, 3), (0, 1, 4), (0, 1, 5), (2, 2, 0), (11, 2, 0), (10, 2, 0), (1, 2, 0), (1, 2, 1), (1, 2, 2), (1, 2, 3), (1, 2, 4), (1, 2, 5), (0, 2, 0), (0, 2, 1), (0, 2, 2)]
theorem kSe_43 : kS_42 ++ [(0, 2, 2)] = kS_43 := by decide +kernel
def kS_44 : List Ky := [(6, 0, 0), (2, 0, 0), (11, 0, 0), (10, 0, 0), (1, 0, 0), (1, 0, 1), (1, 0, 2), (1, 0, 3), (1, 0, 4), (1, 0, 5), (0, 0, 0), (0, 0, 1), (0, 0, 2), (0, 0, 3), (0, 0, 4), (0, 0, 5), (2, 1, 0), (11, 1, 0), (10, 1, 0), (1, 1, 0), (1, 1, 1), (1, 1, 2), (1, 1, 3), (1, 1, 4), (1, 1, 5), (0, 1, 0), (0, 1, 1), (0, 1, 2), (0, 1, 3), (0, 1, 4), (0, 1, 5), (2, 2, 0), (11, 2, 0), (10, 2, 0), (1, 2, 0), (1, 2, 1), (1, 2, 2), (1, 2, 3), (1, 2, 4), (1, 2, 5), (0, 2, 0), (0, 2, 1), (0, 2, 2), (0, 2, 3)]
theorem kSe_44 : kS_43 ++ [(0, 2, 3)] = kS_44 := by decide +kernel
def kS_45 : List Ky := [(6, 0, 0), (2, 0, 0), (11, 0, 0), (10, 0, 0), (1, 0, 0), (1, 0, 1), (1, 0, 2), (1, 0, 3), (1, 0, 4), (1, 0, 5), (0, 0, 0), (0, 0, 1), (0, 0, 2), (0, 0, 3), (0, 0, 4), (0, 0, 5), (2, 1, 0), (11, 1, 0), (10, 1, 0), (1, 1, 0), (1, 1, 1), (1, 1, 2), (1, 1, 3), (1, 1, 4), (1, 1, 5), (0, 1, 0), (0, 1, 1), (0, 1, 2), (0, 1, 3), (0, 1, 4), (0, 1, 5), (2, 2, 0), (11, 2, 0), (10, 2, 0), (1, 2, 0), (1, 2, 1), (1, 2, 2), (1, 2, 3), (1, 2, 4), (1, 2, 5), (0, 2, 0), (0, 2, 1), (0, 2, 2), (0, 2, 3), (0, 2, 4)]
theorem kSe_45 : kS_44 ++ [(0, 2, 4)] = kS_45 := by decide +kernel
def kS_46 : List Ky := [(6, 0, 0), (2, 0, 0), (11, 0, 0), (10, 0, 0), (1, 0, 0), (1, 0, 1), (1, 0, 2), (1, 0, 3), (1, 0, 4), (1, 0, 5), (0, 0, 0), (0, 0, 1), (0, 0, 2), (0, 0, 3), (0, 0, 4), (0, 0, 5), (2, 1, 0), (11, 1, 0), (10, 1, 0), (1, 1, 0), (1, 1, 1), (1, 1, 2), (1, 1, 3), (1, 1, 4), (1, 1, 5), (0, 1, 0), (0, 1, 1), (0, 1, 2), (0, 1, 3), (0, 1, 4), (0, 1, 5), (2, 2, 0), (11, 2, 0), (10, 2, 0), (1, 2, 0), (1, 2, 1), (1, 2, 2), (1, 2, 3), (1, 2, 4), (1, 2, 5), (0, 2, 0), (0, 2, 1), (0, 2, 2), (0, 2, 3), (0, 2, 4), (0, 2, 5)]
theorem kSe_46 : kS_45 ++ [(0, 2, 5)] = kS_46 := by decide +kernel
def qR_X2_2 : MemR := (k_ur (k_ur (k_ur (k_ur (k_ur (k_ur (k_ur (k_ur (k_ur (k_ur (k_ur (k_ur (k_ur (k_ur qRi_X2_2 (2, 2, 0) 0 (some (11, 2, 0))) (2, 2, 0) 1 (some (10, 2, 0))) (11, 2, 0) 0 (some (1, 2, 0))) (11, 2, 0) 1 (some (1, 2, 1))) (11, 2, 0) 2 (some (1, 2, 2))) (11, 2, 0) 3 (some (1, 2, 3))) (11, 2, 0) 4 (some (1, 2, 4))) (11, 2, 0) 5 (some (1, 2, 5))) (10, 2, 0) 0 (some (0, 2, 0))) (10, 2, 0) 1 (some (0, 2, 1))) (10, 2, 0) 2 (some (0, 2, 2))) (10, 2, 0) 3 (some (0, 2, 3))) (10, 2, 0) 4 (some (0, 2, 4))) (10, 2, 0) 5 (some (0, 2, 5)))
def qM_X2_2 : MemI := (k_ui (k_ui (k_ui (k_ui (k_ui (k_ui (k_ui (k_ui (k_ui (k_ui (k_ui (k_ui (k_ui (k_ui (k_ui (k_ui (k_ui (k_ui (k_ui (k_ui (k_ui (k_ui (k_ui (k_ui (k_ui (k_ui (k_ui (k_ui (k_ui (k_ui (k_ui (k_ui (k_ui (k_ui (k_ui (k_ui (k_ui (k_ui (k_ui (k_ui (k_ui (k_ui (k_ui qMi_X2_2 (2, 2, 0) 5 (nI 1)) (1, 2, 0) 0 (nI 0)) (1, 2, 1) 0 (nI 1)) (1, 2, 2) 0 (nI 2)) (1, 2, 3) 0 (nI 3)) (1, 2, 4) 0 (nI 4)) (1, 2, 5) 0 (nI 5)) (0, 2, 0) 5 (-1)) (0, 2, 0) 7 (-1)) (0, 2, 0) 9 (-1)) (0, 2, 0) 10 (-1)) (0, 2, 0) 11 (-1)) (0, 2, 0) 0 (nI 0)) (0, 2, 1) 5 (-1)) (0, 2, 1) 7 (-1)) (0, 2, 1) 9 (-1)) (0, 2, 1) 10 (-1)) (0, 2, 1) 11 (-1)) (0, 2, 1) 0 (nI 1)) (0, 2, 2) 5 (-1)) (0, 2, 2) 7 (-1)) (0, 2, 2) 9 (-1)) (0, 2, 2) 10 (-1)) (0, 2, 2) 11 (-1)) (0, 2, 2) 0 (nI 2)) (0, 2, 3) 5 (-1)) (0, 2, 3) 7 (-1)) (0, 2, 3) 9 (-1)) (0, 2, 3) 10 (-1)) (0, 2, 3) 11 (-1)) (0, 2, 3) 0 (nI 3)) (0, 2, 4) 5 (-1)) (0, 2, 4) 7 (-1)) (0, 2, 4) 9 (-1)) (0, 2, 4) 10 (-1)) (0, 2, 4) 11 (-1)) (0, 2, 4) 0 (nI 4)) (0, 2, 5) 5 (-1)) (0, 2, 5) 7 (-1)) (0, 2, 5) 9 (-1)) (0, 2, 5) 10 (-1)) (0, 2, 5) 11 (-1)) (0, 2, 5) 0 (nI 5))
theorem qcl_X2_2 : k_cl qR_X2_2 kS_46 := (k_cl_ur (k := (10, 2, 0)) (j := 5) (v := (0, 2, 5)) (kSe_46 ▸ k_cl_app (t := [(0, 2, 5)]) (k_cl_ur (k := (10, 2, 0)) (j := 4) (v := (0, 2, 4)) (kSe_45 ▸ k_cl_app (t := [(0, 2, 4)]) (k_cl_ur (k := (10, 2, 0)) (j := 3) (v := (0, 2, 3)) (kSe_44 ▸ k_cl_app (t := [(0, 2, 3)]) (k_cl_ur (k := (10, 2, 0)) (j := 2) (v := (0, 2, 2)) (kSe_43 ▸ k_cl_app (t := [(0, 2, 2)]) (k_cl_ur (k := (10, 2, 0)) (j := 1) (v := (0, 2, 1)) (kSe_42 ▸ k_cl_app (t := [(0, 2, 1)]) (k_cl_ur (k := (10, 2, 0)) (j := 0) (v := (0, 2, 0)) (kSe_41 ▸ k_cl_app (t := [(0, 2, 0)]) (k_cl_ur (k := (11, 2, 0)) (j := 5) (v := (1, 2, 5)) (kSe_40 ▸ k_cl_app (t := [(1, 2, 5)]) (k_cl_ur (k := (11, 2, 0)) (j := 4) (v := (1, 2, 4)) (kSe_39 ▸ k_cl_app (t := [(1, 2, 4)]) (k_cl_ur (k := (11, 2, 0)) (j := 3) (v := (1, 2, 3)) (kSe_38 ▸ k_cl_app (t := [(1, 2, 3)]) (k_cl_ur (k := (11, 2, 0)) (j := 2) (v := (1, 2, 2)) (kSe_37 ▸ k_cl_app (t := [(1, 2, 2)]) (k_cl_ur (k := (11, 2, 0)) (j := 1) (v := (1, 2, 1)) (kSe_36 ▸ k_cl_app (t := [(1, 2, 1)]) (k_cl_ur (k := (11, 2, 0)) (j := 0) (v := (1, 2, 0)) (kSe_35 ▸ k_cl_app (t := [(1, 2, 0)]) (k_cl_ur (k := (2, 2, 0)) (j := 1) (v := (10, 2, 0)) (kSe_34 ▸ k_cl_app (t := [(10, 2, 0)]) (k_cl_ur (k := (2, 2, 0)) (j := 0) (v := (11, 2, 0)) (kSe_33 ▸ k_cl_app (t := [(11, 2, 0)]) qcli_X2_2) (by decide +kernel))) (by decide +kernel))) (by decide +kernel))) (by decide +kernel))) (by decide +kernel))) (by decide +kernel))) (by decide +kernel))) (by decide +kernel))) (by decide +kernel))) (by decide +kernel))) (by decide +kernel))) (by decide +kernel))) (by decide +kernel))) (by decide +kernel))
theorem kSf_X2_2 : kS_32 ++ [(11, 2, 0), (10, 2, 0), (1, 2, 0), (1, 2, 1), (1, 2, 2), (1, 2, 3), (1, 2, 4), (1, 2, 5), (0, 2, 0), (0, 2, 1), (0, 2, 2), (0, 2, 3), (0, 2, 4), (0, 2, 5)] = kS_46 := by decide +kernel
set_option maxRecDepth 100000 in
theorem cn_X2_2 : k_Cn kS_32 [(11, 2, 0), (10, 2, 0), (1, 2, 0), (1, 2, 1), (1, 2, 2), (1, 2, 3), (1, 2, 4), (1, 2, 5), (0, 2, 0), (0, 2, 1), (0, 2, 2), (0, 2, 3), (0, 2, 4), (0, 2, 5)] Mt_X2_init 2 14 174 [vR (2, 2, 0)] qRi_X2_2 qMi_X2_2 qL_z qR_X2_2 qM_X2_2 qL_z := by
  refine k_ofVN (L0 := [vR (2, 2, 0), vU]) (by decide) (by decide) rfl rfl ?_
  intro p l e s m args below meth c D cy ad bs C
  have hag := k_ag_rf (ks := kS_32) (ad := ad)
  have hcl := qcli_X2_2
  refine k_aload_n (pc := 0) C dX2_init_0 rfl ?_
  refine k_objI (pc := 1) C ow_X2 rfl (by decide) (Nat.le_of_ble_eq_true rfl) dX2_init_1 ?_
  refine k_aload_n (pc := 4) C dX2_init_4 rfl ?_
  refine k_bipush (pc := 5) (v := (nI 6)) C dX2_init_5 (by decide) ?_
  refine k_newQ (pc := 7) C hcl (11, 2, 0) (N := 6) (t0 := 3) (E := RX1) (by decide) rfl (C.2.1.2.2.2.2.2.2.2.1) rfl rfl (by decide) (by decide +kernel) (fun _ => rfl) wl_X2_9 (k_vo_of (by decide +kernel)) (k_vo_of (by decide +kernel)) (by decide) (by decide) dX2_init_7 ?_
  intro ad1 ha1 C1
  rw [kSe_33] at C1 ⊢
  have hag2 := k_ag_sub (ks := kS_32) (by decide +kernel) hag ha1
  clear hag
  have hag := hag2
  clear hag2
  have hcl2 := k_cl_app (t := [(11, 2, 0)]) hcl
  rw [kSe_33] at hcl2
  clear hcl
  have hcl := hcl2
  clear hcl2
  clear C ha1
  have C := C1
  clear C1
  refine k_putFR (pc := 10) C rfl (Or.inr ⟨_, rfl⟩) pl_X2_11 (by decide +kernel) rfl rfl dX2_init_10 ?_
  have hcl2 := k_cl_ur (k := (2, 2, 0)) (j := 0) (v := (11, 2, 0)) hcl (by decide +kernel)
  clear hcl
  have hcl := hcl2
  clear hcl2
  refine k_aload_n (pc := 13) C dX2_init_13 rfl ?_
  refine k_bipush (pc := 14) (v := (nI 6)) C dX2_init_14 (by decide) ?_
  refine k_newQ (pc := 16) C hcl (10, 2, 0) (N := 6) (t0 := 2) (E := RX0) (by decide) rfl (C.2.1.2.2.2.2.2.2.1) rfl rfl (by decide) (by decide +kernel) (fun _ => rfl) wl_X2_17 (k_vo_of (by decide +kernel)) (k_vo_of (by decide +kernel)) (by decide) (by decide) dX2_init_16 ?_
  intro ad1 ha1 C1
  rw [kSe_34] at C1 ⊢
  have hag2 := k_ag_sub (ks := kS_32) (by decide +kernel) hag ha1
  clear hag
  have hag := hag2
  clear hag2
  have hcl2 := k_cl_app (t := [(10, 2, 0)]) hcl
  rw [kSe_34] at hcl2
  clear hcl
  have hcl := hcl2
  clear hcl2
  clear C ha1
  have C := C1
  clear C1
  refine k_putFR (pc := 19) C rfl (Or.inr ⟨_, rfl⟩) pl_X2_19 (by decide +kernel) rfl rfl dX2_init_19 ?_
  have hcl2 := k_cl_ur (k := (2, 2, 0)) (j := 1) (v := (10, 2, 0)) hcl (by decide +kernel)
  clear hcl
  have hcl := hcl2
  clear hcl2
  refine k_aload_n (pc := 22) C dX2_init_22 rfl ?_
  refine k_iconst (pc := 23) (v := (nI 1)) C dX2_init_23 (by decide) ?_
  refine k_putI (pc := 24) C pl_X2_23 (by decide +kernel) rfl rfl dX2_init_24 ?_
  refine k_iconst (pc := 27) (v := (nI 0)) C dX2_init_27 (by decide) ?_
  refine k_istore_1 (pc := 28) C dX2_init_28 rfl ?_
  refine k_iload_n (pc := 29) C dX2_init_29 rfl ?_
  refine k_aload_n (pc := 30) C dX2_init_30 rfl ?_
  refine k_getR (pc := 31) (r := some (11, 2, 0)) C fl_X2_11 (by decide +kernel) rfl rfl rfl dX2_init_31 ?_
  refine k_alen (pc := 34) (v := nI 6) C (by decide +kernel) (by decide) rfl dX2_init_34 ?_
  refine k_icmp_geF (pc := 35) C 58 dX2_init_35 (by decide) (by decide) ?_
  refine k_aload_n (pc := 38) C dX2_init_38 rfl ?_
  refine k_getR (pc := 39) (r := some (11, 2, 0)) C fl_X2_11 (by decide +kernel) rfl rfl rfl dX2_init_39 ?_
  refine k_iload_n (pc := 42) C dX2_init_42 rfl ?_
  refine k_newO (pc := 43) (kk := (1, 2, 0)) C hcl tyX1 cl_X1 rfl (by decide +kernel) (fun _ => rfl) (fun _ => rfl) tyX1_ok df_X1 wl_X2_9 wi_X1 wn_X1 (k_vo_of (by decide +kernel)) (k_vo_of (by decide +kernel)) (by decide) (by decide) dX2_init_43 ?_
  intro ad1 ha1 C1
  rw [kSe_35] at C1 ⊢
  have hag2 := k_ag_sub (ks := kS_32) (by decide +kernel) hag ha1
  clear hag
  have hag := hag2
  clear hag2
  have hcl2 := k_cl_app (t := [(1, 2, 0)]) hcl
  rw [kSe_35] at hcl2
  clear hcl
  have hcl := hcl2
  clear hcl2
  clear C ha1
  have C := C1
  clear C1
  refine k_dup (pc := 46) C dX2_init_46 rfl ?_
  refine k_iload_n (pc := 47) C dX2_init_47 rfl ?_
  refine k_callI (pc := 48) C cI_X2_27 (ct_X1_init (by decide +kernel) rfl) rfl rfl rfl (by decide) (by decide) rfl (Nat.le_of_ble_eq_true rfl) dX2_init_48 ?_
  refine k_aast (pc := 51) (j := 0) (t0 := 3) (q := (RX1, TX1, 15)) C (by decide +kernel) (by decide) rfl (by decide +kernel) (by decide) rfl (vp_in_nI (by decide) (by decide)) (by decide) dX2_init_51 ?_
  have hcl2 := k_cl_ur (k := (11, 2, 0)) (j := 0) (v := (1, 2, 0)) hcl (by decide +kernel)
  clear hcl
  have hcl := hcl2
  clear hcl2
  refine k_iinc_1 (pc := 52) (v := nI 1) C dX2_init_52 (by decide) rfl ?_
  refine k_goto (pc := 55) C 29 dX2_init_55 (by decide) ?_
  refine k_iload_n (pc := 29) C dX2_init_29 rfl ?_
  refine k_aload_n (pc := 30) C dX2_init_30 rfl ?_
  refine k_getR (pc := 31) (r := some (11, 2, 0)) C fl_X2_11 (by decide +kernel) rfl rfl rfl dX2_init_31 ?_
  refine k_alen (pc := 34) (v := nI 6) C (by decide +kernel) (by decide) rfl dX2_init_34 ?_
  refine k_icmp_geF (pc := 35) C 58 dX2_init_35 (by decide) (by decide) ?_
  refine k_aload_n (pc := 38) C dX2_init_38 rfl ?_
  refine k_getR (pc := 39) (r := some (11, 2, 0)) C fl_X2_11 (by decide +kernel) rfl rfl rfl dX2_init_39 ?_
  refine k_iload_n (pc := 42) C dX2_init_42 rfl ?_
  refine k_newO (pc := 43) (kk := (1, 2, 1)) C hcl tyX1 cl_X1 rfl (by decide +kernel) (fun _ => rfl) (fun _ => rfl) tyX1_ok df_X1 wl_X2_9 wi_X1 wn_X1 (k_vo_of (by decide +kernel)) (k_vo_of (by decide +kernel)) (by decide) (by decide) dX2_init_43 ?_
  intro ad1 ha1 C1
  rw [kSe_36] at C1 ⊢
  have hag2 := k_ag_sub (ks := kS_32) (by decide +kernel) hag ha1
  clear hag
  have hag := hag2
  clear hag2
  have hcl2 := k_cl_app (t := [(1, 2, 1)]) hcl
  rw [kSe_36] at hcl2
  clear hcl
  have hcl := hcl2
  clear hcl2
  clear C ha1
  have C := C1
  clear C1
  refine k_dup (pc := 46) C dX2_init_46 rfl ?_
  refine k_iload_n (pc := 47) C dX2_init_47 rfl ?_
  refine k_callI (pc := 48) C cI_X2_27 (ct_X1_init (by decide +kernel) rfl) rfl rfl rfl (by decide) (by decide) rfl (Nat.le_of_ble_eq_true rfl) dX2_init_48 ?_
  refine k_aast (pc := 51) (j := 1) (t0 := 3) (q := (RX1, TX1, 15)) C (by decide +kernel) (by decide) rfl (by decide +kernel) (by decide) rfl (vp_in_nI (by decide) (by decide)) (by decide) dX2_init_51 ?_
  have hcl2 := k_cl_ur (k := (11, 2, 0)) (j := 1) (v := (1, 2, 1)) hcl (by decide +kernel)
  clear hcl
  have hcl := hcl2
  clear hcl2
  refine k_iinc_1 (pc := 52) (v := nI 2) C dX2_init_52 (by decide) rfl ?_
  refine k_goto (pc := 55) C 29 dX2_init_55 (by decide) ?_
  refine k_iload_n (pc := 29) C dX2_init_29 rfl ?_
  refine k_aload_n (pc := 30) C dX2_init_30 rfl ?_
  refine k_getR (pc := 31) (r := some (11, 2, 0)) C fl_X2_11 (by decide +kernel) rfl rfl rfl dX2_init_31 ?_
  refine k_alen (pc := 34) (v := nI 6) C (by decide +kernel) (by decide) rfl dX2_init_34 ?_
  refine k_icmp_geF (pc := 35) C 58 dX2_init_35 (by decide) (by decide) ?_
  refine k_aload_n (pc := 38) C dX2_init_38 rfl ?_
  refine k_getR (pc := 39) (r := some (11, 2, 0)) C fl_X2_11 (by decide +kernel) rfl rfl rfl dX2_init_39 ?_
  refine k_iload_n (pc := 42) C dX2_init_42 rfl ?_
  refine k_newO (pc := 43) (kk := (1, 2, 2)) C hcl tyX1 cl_X1 rfl (by decide +kernel) (fun _ => rfl) (fun _ => rfl) tyX1_ok df_X1 wl_X2_9 wi_X1 wn_X1 (k_vo_of (by decide +kernel)) (k_vo_of (by decide +kernel)) (by decide) (by decide) dX2_init_43 ?_
  intro ad1 ha1 C1
  rw [kSe_37] at C1 ⊢
  have hag2 := k_ag_sub (ks := kS_32) (by decide +kernel) hag ha1
  clear hag
  have hag := hag2
  clear hag2
  have hcl2 := k_cl_app (t := [(1, 2, 2)]) hcl
  rw [kSe_37] at hcl2
  clear hcl
  have hcl := hcl2
  clear hcl2
  clear C ha1
  have C := C1
  clear C1
  refine k_dup (pc := 46) C dX2_init_46 rfl ?_
  refine k_iload_n (pc := 47) C dX2_init_47 rfl ?_
  refine k_callI (pc := 48) C cI_X2_27 (ct_X1_init (by decide +kernel) rfl) rfl rfl rfl (by decide) (by decide) rfl (Nat.le_of_ble_eq_true rfl) dX2_init_48 ?_
  refine k_aast (pc := 51) (j := 2) (t0 := 3) (q := (RX1, TX1, 15)) C (by decide +kernel) (by decide) rfl (by decide +kernel) (by decide) rfl (vp_in_nI (by decide) (by decide)) (by decide) dX2_init_51 ?_
  have hcl2 := k_cl_ur (k := (11, 2, 0)) (j := 2) (v := (1, 2, 2)) hcl (by decide +kernel)
  clear hcl
  have hcl := hcl2
  clear hcl2
  refine k_iinc_1 (pc := 52) (v := nI 3) C dX2_init_52 (by decide) rfl ?_
  refine k_goto (pc := 55) C 29 dX2_init_55 (by decide) ?_
  refine k_iload_n (pc := 29) C dX2_init_29 rfl ?_
  refine k_aload_n (pc := 30) C dX2_init_30 rfl ?_
  refine k_getR (pc := 31) (r := some (11, 2, 0)) C fl_X2_11 (by decide +kernel) rfl rfl rfl dX2_init_31 ?_
  refine k_alen (pc := 34) (v := nI 6) C (by decide +kernel) (by decide) rfl dX2_init_34 ?_
  refine k_icmp_geF (pc := 35) C 58 dX2_init_35 (by decide) (by decide) ?_
  refine k_aload_n (pc := 38) C dX2_init_38 rfl ?_
  refine k_getR (pc := 39) (r := some (11, 2, 0)) C fl_X2_11 (by decide +kernel) rfl rfl rfl dX2_init_39 ?_
  refine k_iload_n (pc := 42) C dX2_init_42 rfl ?_
  refine k_newO (pc := 43) (kk := (1, 2, 3)) C hcl tyX1 cl_X1 rfl (by decide +kernel) (fun _ => rfl) (fun _ => rfl) tyX1_ok df_X1 wl_X2_9 wi_X1 wn_X1 (k_vo_of (by decide +kernel)) (k_vo_of (by decide +kernel)) (by decide) (by decide) dX2_init_43 ?_
  intro ad1 ha1 C1
  rw [kSe_38] at C1 ⊢
  have hag2 := k_ag_sub (ks := kS_32) (by decide +kernel) hag ha1
  clear hag
  have hag := hag2
  clear hag2
  have hcl2 := k_cl_app (t := [(1, 2, 3)]) hcl
  rw [kSe_38] at hcl2
  clear hcl
  have hcl := hcl2
  clear hcl2
  clear C ha1
  have C := C1
  clear C1
  refine k_dup (pc := 46) C dX2_init_46 rfl ?_
  refine k_iload_n (pc := 47) C dX2_init_47 rfl ?_
  refine k_callI (pc := 48) C cI_X2_27 (ct_X1_init (by decide +kernel) rfl) rfl rfl rfl (by decide) (by decide) rfl (Nat.le_of_ble_eq_true rfl) dX2_init_48 ?_
  refine k_aast (pc := 51) (j := 3) (t0 := 3) (q := (RX1, TX1, 15)) C (by decide +kernel) (by decide) rfl (by decide +kernel) (by decide) rfl (vp_in_nI (by decide) (by decide)) (by decide) dX2_init_51 ?_
  have hcl2 := k_cl_ur (k := (11, 2, 0)) (j := 3) (v := (1, 2, 3)) hcl (by decide +kernel)
  clear hcl
  have hcl := hcl2
  clear hcl2
  refine k_iinc_1 (pc := 52) (v := nI 4) C dX2_init_52 (by decide) rfl ?_
  refine k_goto (pc := 55) C 29 dX2_init_55 (by decide) ?_
  refine k_iload_n (pc := 29) C dX2_init_29 rfl ?_
  refine k_aload_n (pc := 30) C dX2_init_30 rfl ?_
  refine k_getR (pc := 31) (r := some (11, 2, 0)) C fl_X2_11 (by decide +kernel) rfl rfl rfl dX2_init_31 ?_
  refine k_alen (pc := 34) (v := nI 6) C (by decide +kernel) (by decide) rfl dX2_init_34 ?_
  refine k_icmp_geF (pc := 35) C 58 dX2_init_35 (by decide) (by decide) ?_
  refine k_aload_n (pc := 38) C dX2_init_38 rfl ?_
  refine k_getR (pc := 39) (r := some (11, 2, 0)) C fl_X2_11 (by decide +kernel) rfl rfl rfl dX2_init_39 ?_
  refine k_iload_n (pc := 42) C dX2_init_42 rfl ?_
  refine k_newO (pc := 43) (kk := (1, 2, 4)) C hcl tyX1 cl_X1 rfl (by decide +kernel) (fun _ => rfl) (fun _ => rfl) tyX1_ok df_X1 wl_X2_9 wi_X1 wn_X1 (k_vo_of (by decide +kernel)) (k_vo_of (by decide +kernel)) (by decide) (by decide) dX2_init_43 ?_
  intro ad1 ha1 C1
  rw [kSe_39] at C1 ⊢
  have hag2 := k_ag_sub (ks := kS_32) (by decide +kernel) hag ha1
  clear hag
  have hag := hag2
  clear hag2
  have hcl2 := k_cl_app (t := [(1, 2, 4)]) hcl
  rw [kSe_39] at hcl2
  clear hcl
  have hcl := hcl2
  clear hcl2
  clear C ha1
  have C := C1
  clear C1
  refine k_dup (pc := 46) C dX2_init_46 rfl ?_
  refine k_iload_n (pc := 47) C dX2_init_47 rfl ?_
  refine k_callI (pc := 48) C cI_X2_27 (ct_X1_init (by decide +kernel) rfl) rfl rfl rfl (by decide) (by decide) rfl (Nat.le_of_ble_eq_true rfl) dX2_init_48 ?_
  refine k_aast (pc := 51) (j := 4) (t0 := 3) (q := (RX1, TX1, 15)) C (by decide +kernel) (by decide) rfl (by decide +kernel) (by decide) rfl (vp_in_nI (by decide) (by decide)) (by decide) dX2_init_51 ?_
  have hcl2 := k_cl_ur (k := (11, 2, 0)) (j := 4) (v := (1, 2, 4)) hcl (by decide +kernel)
  clear hcl
  have hcl := hcl2
  clear hcl2
  refine k_iinc_1 (pc := 52) (v := nI 5) C dX2_init_52 (by decide) rfl ?_
  refine k_goto (pc := 55) C 29 dX2_init_55 (by decide) ?_
  refine k_iload_n (pc := 29) C dX2_init_29 rfl ?_
  refine k_aload_n (pc := 30) C dX2_init_30 rfl ?_
  refine k_getR (pc := 31) (r := some (11, 2, 0)) C fl_X2_11 (by decide +kernel) rfl rfl rfl dX2_init_31 ?_
  refine k_alen (pc := 34) (v := nI 6) C (by decide +kernel) (by decide) rfl dX2_init_34 ?_
  refine k_icmp_geF (pc := 35) C 58 dX2_init_35 (by decide) (by decide) ?_
  refine k_aload_n (pc := 38) C dX2_init_38 rfl ?_
  refine k_getR (pc := 39) (r := some (11, 2, 0)) C fl_X2_11 (by decide +kernel) rfl rfl rfl dX2_init_39 ?_
  refine k_iload_n (pc := 42) C dX2_init_42 rfl ?_
  refine k_newO (pc := 43) (kk := (1, 2, 5)) C hcl tyX1 cl_X1 rfl (by decide +kernel) (fun _ => rfl) (fun _ => rfl) tyX1_ok df_X1 wl_X2_9 wi_X1 wn_X1 (k_vo_of (by decide +kernel)) (k_vo_of (by decide +kernel)) (by decide) (by decide) dX2_init_43 ?_
  intro ad1 ha1 C1
  rw [kSe_40] at C1 ⊢
  have hag2 := k_ag_sub (ks := kS_32) (by decide +kernel) hag ha1
  clear hag
  have hag := hag2
  clear hag2
  have hcl2 := k_cl_app (t := [(1, 2, 5)]) hcl
  rw [kSe_40] at hcl2
  clear hcl
  have hcl := hcl2
  clear hcl2
  clear C ha1
  have C := C1
  clear C1
  refine k_dup (pc := 46) C dX2_init_46 rfl ?_
  refine k_iload_n (pc := 47) C dX2_init_47 rfl ?_
  refine k_callI (pc := 48) C cI_X2_27 (ct_X1_init (by decide +kernel) rfl) rfl rfl rfl (by decide) (by decide) rfl (Nat.le_of_ble_eq_true rfl) dX2_init_48 ?_
  refine k_aast (pc := 51) (j := 5) (t0 := 3) (q := (RX1, TX1, 15)) C (by decide +kernel) (by decide) rfl (by decide +kernel) (by decide) rfl (vp_in_nI (by decide) (by decide)) (by decide) dX2_init_51 ?_
  have hcl2 := k_cl_ur (k := (11, 2, 0)) (j := 5) (v := (1, 2, 5)) hcl (by decide +kernel)
  clear hcl
  have hcl := hcl2
  clear hcl2
  refine k_iinc_1 (pc := 52) (v := nI 6) C dX2_init_52 (by decide) rfl ?_
  refine k_goto (pc := 55) C 29 dX2_init_55 (by decide) ?_
  refine k_iload_n (pc := 29) C dX2_init_29 rfl ?_
  refine k_aload_n (pc := 30) C dX2_init_30 rfl ?_
  refine k_getR (pc := 31) (r := some (11, 2, 0)) C fl_X2_11 (by decide +kernel) rfl rfl rfl dX2_init_31 ?_
  refine k_alen (pc := 34) (v := nI 6) C (by decide +kernel) (by decide) rfl dX2_init_34 ?_
  refine k_icmp_geT (pc := 35) C 58 dX2_init_35 (by decide) (by decide) ?_
  refine k_iconst (pc := 58) (v := (nI 0)) C dX2_init_58 (by decide) ?_
  refine k_istore_1 (pc := 59) C dX2_init_59 rfl ?_
  refine k_iload_n (pc := 60) C dX2_init_60 rfl ?_
  refine k_aload_n (pc := 61) C dX2_init_61 rfl ?_
  refine k_getR (pc := 62) (r := some (10, 2, 0)) C fl_X2_19 (by decide +kernel) rfl rfl rfl dX2_init_62 ?_
  refine k_alen (pc := 65) (v := nI 6) C (by decide +kernel) (by decide) rfl dX2_init_65 ?_
  refine k_icmp_geF (pc := 66) C 89 dX2_init_66 (by decide) (by decide) ?_
  refine k_aload_n (pc := 69) C dX2_init_69 rfl ?_
  refine k_getR (pc := 70) (r := some (10, 2, 0)) C fl_X2_19 (by decide +kernel) rfl rfl rfl dX2_init_70 ?_
  refine k_iload_n (pc := 73) C dX2_init_73 rfl ?_
  refine k_newO (pc := 74) (kk := (0, 2, 0)) C hcl tyX0 cl_X0 rfl (by decide +kernel) (fun _ => rfl) (fun _ => rfl) tyX0_ok df_X0 wl_X2_17 wi_X0 wn_X0 (k_vo_of (by decide +kernel)) (k_vo_of (by decide +kernel)) (by decide) (by decide) dX2_init_74 ?_
  intro ad1 ha1 C1
  rw [kSe_41] at C1 ⊢
  have hag2 := k_ag_sub (ks := kS_32) (by decide +kernel) hag ha1
  clear hag
  have hag := hag2
  clear hag2
  have hcl2 := k_cl_app (t := [(0, 2, 0)]) hcl
  rw [kSe_41] at hcl2
  clear hcl
  have hcl := hcl2
  clear hcl2
  clear C ha1
  have C := C1
  clear C1
  refine k_dup (pc := 77) C dX2_init_77 rfl ?_
  refine k_iload_n (pc := 78) C dX2_init_78 rfl ?_
  refine k_callI (pc := 79) C cI_X2_30 (ct_X0_init (by decide +kernel) rfl) rfl rfl rfl (by decide) (by decide) rfl (Nat.le_of_ble_eq_true rfl) dX2_init_79 ?_
  refine k_aast (pc := 82) (j := 0) (t0 := 2) (q := (RX0, TX0, 12)) C (by decide +kernel) (by decide) rfl (by decide +kernel) (by decide) rfl (vp_in_nI (by decide) (by decide)) (by decide) dX2_init_82 ?_
  have hcl2 := k_cl_ur (k := (10, 2, 0)) (j := 0) (v := (0, 2, 0)) hcl (by decide +kernel)
  clear hcl
  have hcl := hcl2
  clear hcl2
  refine k_iinc_1 (pc := 83) (v := nI 1) C dX2_init_83 (by decide) rfl ?_
  refine k_goto (pc := 86) C 60 dX2_init_86 (by decide) ?_
  refine k_iload_n (pc := 60) C dX2_init_60 rfl ?_
  refine k_aload_n (pc := 61) C dX2_init_61 rfl ?_
  refine k_getR (pc := 62) (r := some (10, 2, 0)) C fl_X2_19 (by decide +kernel) rfl rfl rfl dX2_init_62 ?_
  refine k_alen (pc := 65) (v := nI 6) C (by decide +kernel) (by decide) rfl dX2_init_65 ?_
  refine k_icmp_geF (pc := 66) C 89 dX2_init_66 (by decide) (by decide) ?_
  refine k_aload_n (pc := 69) C dX2_init_69 rfl ?_
  refine k_getR (pc := 70) (r := some (10, 2, 0)) C fl_X2_19 (by decide +kernel) rfl rfl rfl dX2_init_70 ?_
  refine k_iload_n (pc := 73) C dX2_init_73 rfl ?_
  refine k_newO (pc := 74) (kk := (0, 2, 1)) C hcl tyX0 cl_X0 rfl (by decide +kernel) (fun _ => rfl) (fun _ => rfl) tyX0_ok df_X0 wl_X2_17 wi_X0 wn_X0 (k_vo_of (by decide +kernel)) (k_vo_of (by decide +kernel)) (by decide) (by decide) dX2_init_74 ?_
  intro ad1 ha1 C1
  rw [kSe_42] at C1 ⊢
  have hag2 := k_ag_sub (ks := kS_32) (by decide +kernel) hag ha1
  clear hag
  have hag := hag2
  clear hag2
  have hcl2 := k_cl_app (t := [(0, 2, 1)]) hcl
  rw [kSe_42] at hcl2
  clear hcl
  have hcl := hcl2
  clear hcl2
  clear C ha1
  have C := C1
  clear C1
  refine k_dup (pc := 77) C dX2_init_77 rfl ?_
  refine k_iload_n (pc := 78) C dX2_init_78 rfl ?_
  refine k_callI (pc := 79) C cI_X2_30 (ct_X0_init (by decide +kernel) rfl) rfl rfl rfl (by decide) (by decide) rfl (Nat.le_of_ble_eq_true rfl) dX2_init_79 ?_
  refine k_aast (pc := 82) (j := 1) (t0 := 2) (q := (RX0, TX0, 12)) C (by decide +kernel) (by decide) rfl (by decide +kernel) (by decide) rfl (vp_in_nI (by decide) (by decide)) (by decide) dX2_init_82 ?_
  have hcl2 := k_cl_ur (k := (10, 2, 0)) (j := 1) (v := (0, 2, 1)) hcl (by decide +kernel)
  clear hcl
  have hcl := hcl2
  clear hcl2
  refine k_iinc_1 (pc := 83) (v := nI 2) C dX2_init_83 (by decide) rfl ?_
  refine k_goto (pc := 86) C 60 dX2_init_86 (by decide) ?_
  refine k_iload_n (pc := 60) C dX2_init_60 rfl ?_
  refine k_aload_n (pc := 61) C dX2_init_61 rfl ?_
  refine k_getR (pc := 62) (r := some (10, 2, 0)) C fl_X2_19 (by decide +kernel) rfl rfl rfl dX2_init_62 ?_
  refine k_alen (pc := 65) (v := nI 6) C (by decide +kernel) (by decide) rfl dX2_init_65 ?_
  refine k_icmp_geF (pc := 66) C 89 dX2_init_66 (by decide) (by decide) ?_
  refine k_aload_n (pc := 69) C dX2_init_69 rfl ?_
  refine k_getR (pc := 70) (r := some (10, 2, 0)) C fl_X2_19 (by decide +kernel) rfl rfl rfl dX2_init_70 ?_
  refine k_iload_n (pc := 73) C dX2_init_73 rfl ?_
  refine k_newO (pc := 74) (kk := (0, 2, 2)) C hcl tyX0 cl_X0 rfl (by decide +kernel) (fun _ => rfl) (fun _ => rfl) tyX0_ok df_X0 wl_X2_17 wi_X0 wn_X0 (k_vo_of (by decide +kernel)) (k_vo_of (by decide +kernel)) (by decide) (by decide) dX2_init_74 ?_
  intro ad1 ha1 C1
  rw [kSe_43] at C1 ⊢
  have hag2 := k_ag_sub (ks := kS_32) (by decide +kernel) hag ha1
  clear hag
  have hag := hag2
  clear hag2
  have hcl2 := k_cl_app (t := [(0, 2, 2)]) hcl
  rw [kSe_43] at hcl2
  clear hcl
  have hcl := hcl2
  clear hcl2
  clear C ha1
  have C := C1
  clear C1
  refine k_dup (pc := 77) C dX2_init_77 rfl ?_
  refine k_iload_n (pc := 78) C dX2_init_78 rfl ?_
  refine k_callI (pc := 79) C cI_X2_30 (ct_X0_init (by decide +kernel) rfl) rfl rfl rfl (by decide) (by decide) rfl (Nat.le_of_ble_eq_true rfl) dX2_init_79 ?_
  refine k_aast (pc := 82) (j := 2) (t0 := 2) (q := (RX0, TX0, 12)) C (by decide +kernel) (by decide) rfl (by decide +kernel) (by decide) rfl (vp_in_nI (by decide) (by decide)) (by decide) dX2_init_82 ?_
  have hcl2 := k_cl_ur (k := (10, 2, 0)) (j := 2) (v := (0, 2, 2)) hcl (by decide +kernel)
  clear hcl
  have hcl := hcl2
  clear hcl2
  refine k_iinc_1 (pc := 83) (v := nI 3) C dX2_init_83 (by decide) rfl ?_
  refine k_goto (pc := 86) C 60 dX2_init_86 (by decide) ?_
  refine k_iload_n (pc := 60) C dX2_init_60 rfl ?_
  refine k_aload_n (pc := 61) C dX2_init_61 rfl ?_
  refine k_getR (pc := 62) (r := some (10, 2, 0)) C fl_X2_19 (by decide +kernel) rfl rfl rfl dX2_init_62 ?_
  refine k_alen (pc := 65) (v := nI 6) C (by decide +kernel) (by decide) rfl dX2_init_65 ?_
  refine k_icmp_geF (pc := 66) C 89 dX2_init_66 (by decide) (by decide) ?_
  refine k_aload_n (pc := 69) C dX2_init_69 rfl ?_
  refine k_getR (pc := 70) (r := some (10, 2, 0)) C fl_X2_19 (by decide +kernel) rfl rfl rfl dX2_init_70 ?_
  refine k_iload_n (pc := 73) C dX2_init_73 rfl ?_
  refine k_newO (pc := 74) (kk := (0, 2, 3)) C hcl tyX0 cl_X0 rfl (by decide +kernel) (fun _ => rfl) (fun _ => rfl) tyX0_ok df_X0 wl_X2_17 wi_X0 wn_X0 (k_vo_of (by decide +kernel)) (k_vo_of (by decide +kernel)) (by decide) (by decide) dX2_init_74 ?_
  intro ad1 ha1 C1
  rw [kSe_44] at C1 ⊢
  have hag2 := k_ag_sub (ks := kS_32) (by decide +kernel) hag ha1
  clear hag
  have hag := hag2
  clear hag2
  have hcl2 := k_cl_app (t := [(0, 2, 3)]) hcl
  rw [kSe_44] at hcl2
  clear hcl
  have hcl := hcl2
  clear hcl2
  clear C ha1
  have C := C1
  clear C1
  refine k_dup (pc := 77) C dX2_init_77 rfl ?_
  refine k_iload_n (pc := 78) C dX2_init_78 rfl ?_
  refine k_callI (pc := 79) C cI_X2_30 (ct_X0_init (by decide +kernel) rfl) rfl rfl rfl (by decide) (by decide) rfl (Nat.le_of_ble_eq_true rfl) dX2_init_79 ?_
  refine k_aast (pc := 82) (j := 3) (t0 := 2) (q := (RX0, TX0, 12)) C (by decide +kernel) (by decide) rfl (by decide +kernel) (by decide) rfl (vp_in_nI (by decide) (by decide)) (by decide) dX2_init_82 ?_
  have hcl2 := k_cl_ur (k := (10, 2, 0)) (j := 3) (v := (0, 2, 3)) hcl (by decide +kernel)
  clear hcl
  have hcl := hcl2
  clear hcl2
  refine k_iinc_1 (pc := 83) (v := nI 4) C dX2_init_83 (by decide) rfl ?_
  refine k_goto (pc := 86) C 60 dX2_init_86 (by decide) ?_
  refine k_iload_n (pc := 60) C dX2_init_60 rfl ?_
  refine k_aload_n (pc := 61) C dX2_init_61 rfl ?_
  refine k_getR (pc := 62) (r := some (10, 2, 0)) C fl_X2_19 (by decide +kernel) rfl rfl rfl dX2_init_62 ?_
  refine k_alen (pc := 65) (v := nI 6) C (by decide +kernel) (by decide) rfl dX2_init_65 ?_
  refine k_icmp_geF (pc := 66) C 89 dX2_init_66 (by decide) (by decide) ?_
  refine k_aload_n (pc := 69) C dX2_init_69 rfl ?_
  refine k_getR (pc := 70) (r := some (10, 2, 0)) C fl_X2_19 (by decide +kernel) rfl rfl rfl dX2_init_70 ?_
  refine k_iload_n (pc := 73) C dX2_init_73 rfl ?_
  refine k_newO (pc := 74) (kk := (0, 2, 4)) C hcl tyX0 cl_X0 rfl (by decide +kernel) (fun _ => rfl) (fun _ => rfl) tyX0_ok df_X0 wl_X2_17 wi_X0 wn_X0 (k_vo_of (by decide +kernel)) (k_vo_of (by decide +kernel)) (by decide) (by decide) dX2_init_74 ?_
  intro ad1 ha1 C1
  rw [kSe_45] at C1 ⊢
  have hag2 := k_ag_sub (ks := kS_32) (by decide +kernel) hag ha1
  clear hag
  have hag := hag2
  clear hag2
  have hcl2 := k_cl_app (t := [(0, 2, 4)]) hcl
  rw [kSe_45] at hcl2
  clear hcl
  have hcl := hcl2
  clear hcl2
  clear C ha1
  have C := C1
  clear C1
  refine k_dup (pc := 77) C dX2_init_77 rfl ?_
  refine k_iload_n (pc := 78) C dX2_init_78 rfl ?_
  refine k_callI (pc := 79) C cI_X2_30 (ct_X0_init (by decide +kernel) rfl) rfl rfl rfl (by decide) (by decide) rfl (Nat.le_of_ble_eq_true rfl) dX2_init_79 ?_
  refine k_aast (pc := 82) (j := 4) (t0 := 2) (q := (RX0, TX0, 12)) C (by decide +kernel) (by decide) rfl (by decide +kernel) (by decide) rfl (vp_in_nI (by decide) (by decide)) (by decide) dX2_init_82 ?_
  have hcl2 := k_cl_ur (k := (10, 2, 0)) (j := 4) (v := (0, 2, 4)) hcl (by decide +kernel)
  clear hcl
  have hcl := hcl2
  clear hcl2
  refine k_iinc_1 (pc := 83) (v := nI 5) C dX2_init_83 (by decide) rfl ?_
  refine k_goto (pc := 86) C 60 dX2_init_86 (by decide) ?_
  refine k_iload_n (pc := 60) C dX2_init_60 rfl ?_
  refine k_aload_n (pc := 61) C dX2_init_61 rfl ?_
  refine k_getR (pc := 62) (r := some (10, 2, 0)) C fl_X2_19 (by decide +kernel) rfl rfl rfl dX2_init_62 ?_
  refine k_alen (pc := 65) (v := nI 6) C (by decide +kernel) (by decide) rfl dX2_init_65 ?_
  refine k_icmp_geF (pc := 66) C 89 dX2_init_66 (by decide) (by decide) ?_
  refine k_aload_n (pc := 69) C dX2_init_69 rfl ?_
  refine k_getR (pc := 70) (r := some (10, 2, 0)) C fl_X2_19 (by decide +kernel) rfl rfl rfl dX2_init_70 ?_
  refine k_iload_n (pc := 73) C dX2_init_73 rfl ?_
  refine k_newO (pc := 74) (kk := (0, 2, 5)) C hcl tyX0 cl_X0 rfl (by decide +kernel) (fun _ => rfl) (fun _ => rfl) tyX0_ok df_X0 wl_X2_17 wi_X0 wn_X0 (k_vo_of (by decide +kernel)) (k_vo_of (by decide +kernel)) (by decide) (by decide) dX2_init_74 ?_
  intro ad1 ha1 C1
  rw [kSe_46] at C1 ⊢
  have hag2 := k_ag_sub (ks := kS_32) (by decide +kernel) hag ha1
  clear hag
  have hag := hag2
  clear hag2
  have hcl2 := k_cl_app (t := [(0, 2, 5)]) hcl
  rw [kSe_46] at hcl2
  clear hcl
  have hcl := hcl2
  clear hcl2
  clear C ha1
  have C := C1
  clear C1
  refine k_dup (pc := 77) C dX2_init_77 rfl ?_
  refine k_iload_n (pc := 78) C dX2_init_78 rfl ?_
  refine k_callI (pc := 79) C cI_X2_30 (ct_X0_init (by decide +kernel) rfl) rfl rfl rfl (by decide) (by decide) rfl (Nat.le_of_ble_eq_true rfl) dX2_init_79 ?_
  refine k_aast (pc := 82) (j := 5) (t0 := 2) (q := (RX0, TX0, 12)) C (by decide +kernel) (by decide) rfl (by decide +kernel) (by decide) rfl (vp_in_nI (by decide) (by decide)) (by decide) dX2_init_82 ?_
  have hcl2 := k_cl_ur (k := (10, 2, 0)) (j := 5) (v := (0, 2, 5)) hcl (by decide +kernel)
  clear hcl
  have hcl := hcl2
  clear hcl2
  refine k_iinc_1 (pc := 83) (v := nI 6) C dX2_init_83 (by decide) rfl ?_
  refine k_goto (pc := 86) C 60 dX2_init_86 (by decide) ?_
  refine k_iload_n (pc := 60) C dX2_init_60 rfl ?_
  refine k_aload_n (pc := 61) C dX2_init_61 rfl ?_
  refine k_getR (pc := 62) (r := some (10, 2, 0)) C fl_X2_19 (by decide +kernel) rfl rfl rfl dX2_init_62 ?_
  refine k_alen (pc := 65) (v := nI 6) C (by decide +kernel) (by decide) rfl dX2_init_65 ?_
  refine k_icmp_geT (pc := 66) C 89 dX2_init_66 (by decide) (by decide) ?_
  rw [← kSf_X2_2] at C ⊢
  exact k_vretN (pc := 89) (mc := 14) (ms := 174) C rfl hag dX2_init_89
def kS_47 : List Ky := [(6, 0, 0), (2, 0, 0), (11, 0, 0), (10, 0, 0), (1, 0, 0), (1, 0, 1), (1, 0, 2), (1, 0, 3), (1, 0, 4), (1, 0, 5), (0, 0, 0), (0, 0, 1), (0, 0, 2), (0, 0, 3), (0, 0, 4), (0, 0, 5), (2, 1, 0), (11, 1, 0), (10, 1, 0), (1, 1, 0), (1, 1, 1), (1, 1, 2), (1, 1, 3), (1, 1, 4), (1, 1, 5), (0, 1, 0), (0, 1, 1), (0, 1, 2), (0, 1, 3), (0, 1, 4), (0, 1, 5), (2, 2, 0), (11, 2, 0), (10, 2, 0), (1, 2, 0), (1, 2, 1), (1, 2, 2), (1, 2, 3), (1, 2, 4), (1, 2, 5), (0, 2, 0), (0, 2, 1), (0, 2, 2), (0, 2, 3), (0, 2, 4), (0, 2, 5), (12, 0, 0)]
theorem kSe_47 : kS_46 ++ [(12, 0, 0)] = kS_47 := by decide +kernel
def kS_48 : List Ky := [(6, 0, 0), (2, 0, 0), (11, 0, 0), (10, 0, 0), (1, 0, 0), (1, 0, 1), (1, 0, 2), (1, 0, 3), (1, 0, 4), (1, 0, 5), (0, 0, 0), (0, 0, 1), (0, 0, 2), (0, 0, 3), (0, 0, 4), (0, 0, 5), (2, 1, 0), (11, 1, 0), (10, 1, 0), (1, 1, 0), (1, 1, 1), (1, 1, 2), (1, 1, 3), (1, 1, 4), (1, 1, 5), (0, 1, 0), (0, 1, 1), (0, 1, 2), (0, 1, 3), (0, 1, 4), (0, 1, 5), (2, 2, 0), (11, 2, 0), (10, 2, 0), (1, 2, 0), (1, 2, 1), (1, 2, 2), (1, 2, 3), (1, 2, 4), (1, 2, 5), (0, 2, 0), (0, 2, 1), (0, 2, 2), (0, 2, 3), (0, 2, 4), (0, 2, 5), (12, 0, 0), (8, 100, 0)]
theorem kSe_48 : kS_47 ++ [(8, 100, 0)] = kS_48 := by decide +kernel
def kS_49 : List Ky := [(6, 0, 0), (2, 0, 0), (11, 0, 0), (10, 0, 0), (1, 0, 0), (1, 0, 1), (1, 0, 2), (1, 0, 3), (1, 0, 4), (1, 0, 5), (0, 0, 0), (0, 0, 1), (0, 0, 2), (0, 0, 3), (0, 0, 4), (0, 0, 5), (2, 1, 0), (11, 1, 0), (10, 1, 0), (1, 1, 0), (1, 1, 1), (1, 1, 2), (1, 1, 3), (1, 1, 4), (1, 1, 5), (0, 1, 0), (0, 1, 1), (0, 1, 2), (0, 1, 3), (0, 1, 4), (0, 1, 5), (2, 2, 0), (11, 2, 0), (10, 2, 0), (1, 2, 0), (1, 2, 1), (1, 2, 2), (1, 2, 3), (1, 2, 4), (1, 2, 5), (0, 2, 0), (0, 2, 1), (0, 2, 2), (0, 2, 3), (0, 2, 4), (0, 2, 5), (12, 0, 0), (8, 100, 0), (4, 0, 0)]
theorem kSe_49 : kS_48 ++ [(4, 0, 0)] = kS_49 := by decide +kernel
def qRi_X4 : MemR := (k_ur (k_ur (k_ur qR_X2_2 (6, 0, 0) 2 (some (2, 2, 0))) (6, 0, 0) 4 (some (12, 0, 0))) (6, 0, 0) 5 (some (8, 100, 0)))
def qMi_X4 : MemI := qM_X2_2
theorem qcli_X4 : k_cl qRi_X4 kS_49 := (kSe_49 ▸ k_cl_app (t := [(4, 0, 0)]) (k_cl_ur (k := (6, 0, 0)) (j := 5) (v := (8, 100, 0)) (kSe_48 ▸ k_cl_app (t := [(8, 100, 0)]) (k_cl_ur (k := (6, 0, 0)) (j := 4) (v := (12, 0, 0)) (kSe_47 ▸ k_cl_app (t := [(12, 0, 0)]) (k_cl_ur (k := (6, 0, 0)) (j := 2) (v := (2, 2, 0)) qcl_X2_2 (by decide +kernel))) (by decide +kernel))) (by decide +kernel)))
def kS_50 : List Ky := [(6, 0, 0), (2, 0, 0), (11, 0, 0), (10, 0, 0), (1, 0, 0), (1, 0, 1), (1, 0, 2), (1, 0, 3), (1, 0, 4), (1, 0, 5), (0, 0, 0), (0, 0, 1), (0, 0, 2), (0, 0, 3), (0, 0, 4), (0, 0, 5), (2, 1, 0), (11, 1, 0), (10, 1, 0), (1, 1, 0), (1, 1, 1), (1, 1, 2), (1, 1, 3), (1, 1, 4), (1, 1, 5), (0, 1, 0), (0, 1, 1), (0, 1, 2), (0, 1, 3), (0, 1, 4), (0, 1, 5), (2, 2, 0), (11, 2, 0), (10, 2, 0), (1, 2, 0), (1, 2, 1), (1, 2, 2), (1, 2, 3), (1, 2, 4), (1, 2, 5), (0, 2, 0), (0, 2, 1), (0, 2, 2), (0, 2, 3), (0, 2, 4), (0, 2, 5), (12, 0, 0), (8, 100, 0), (4, 0, 0), (8, 101, 0)]
theorem kSe_50 : kS_49 ++ [(8, 101, 0)] = kS_50 := by decide +kernel
def qR_X4 : MemR := (k_ur qRi_X4 (4, 0, 0) 0 (some (8, 101, 0)))
def qM_X4 : MemI := (k_ui qMi_X4 (4, 0, 0) 3 (-1))
theorem qcl_X4 : k_cl qR_X4 kS_50 := (k_cl_ur (k := (4, 0, 0)) (j := 0) (v := (8, 101, 0)) (kSe_50 ▸ k_cl_app (t := [(8, 101, 0)]) qcli_X4) (by decide +kernel))
theorem kSf_X4 : kS_49 ++ [(8, 101, 0)] = kS_50 := by decide +kernel
set_option maxRecDepth 100000 in
theorem cn_X4 : k_Cn kS_49 [(8, 101, 0)] Mt_X4_init 1 1 160 [vR (4, 0, 0)] qRi_X4 qMi_X4 qL_z qR_X4 qM_X4 qL_z := by
  refine k_ofVN (L0 := [vR (4, 0, 0)]) (by decide) (by decide) rfl rfl ?_
  intro p l e s m args below meth c D cy ad bs C
  have hag := k_ag_rf (ks := kS_49) (ad := ad)
  have hcl := qcli_X4
  refine k_aload_n (pc := 0) C dX4_init_0 rfl ?_
  refine k_objI (pc := 1) C ow_X4 rfl (by decide) (Nat.le_of_ble_eq_true rfl) dX4_init_1 ?_
  refine k_aload_n (pc := 4) C dX4_init_4 rfl ?_
  refine k_sipush (pc := 5) (v := (nI 160)) C dX4_init_5 (by decide) ?_
  refine k_newI (pc := 8) C hcl (8, 101, 0) (N := 160) rfl rfl rfl (by decide) (by decide +kernel) (fun _ => rfl) (k_vo_of (by decide +kernel)) (k_vo_of (by decide +kernel)) (by decide) (by decide) dX4_init_8 ?_
  intro ad1 ha1 C1
  rw [kSe_50] at C1 ⊢
  have hag2 := k_ag_sub (ks := kS_49) (by decide +kernel) hag ha1
  clear hag
  have hag := hag2
  clear hag2
  have hcl2 := k_cl_app (t := [(8, 101, 0)]) hcl
  rw [kSe_50] at hcl2
  clear hcl
  have hcl := hcl2
  clear hcl2
  clear C ha1
  have C := C1
  clear C1
  refine k_putFR (pc := 10) C rfl (Or.inr ⟨_, rfl⟩) pl_X4_9 (by decide +kernel) rfl rfl dX4_init_10 ?_
  have hcl2 := k_cl_ur (k := (4, 0, 0)) (j := 0) (v := (8, 101, 0)) hcl (by decide +kernel)
  clear hcl
  have hcl := hcl2
  clear hcl2
  refine k_aload_n (pc := 13) C dX4_init_13 rfl ?_
  refine k_iconst (pc := 14) (v := (-1)) C dX4_init_14 (by decide) ?_
  refine k_putI (pc := 15) C pl_X4_15 (by decide +kernel) rfl rfl dX4_init_15 ?_
  rw [← kSf_X4] at C ⊢
  exact k_vretN (pc := 18) (mc := 1) (ms := 160) C rfl hag dX4_init_18
def kS_51 : List Ky := [(6, 0, 0), (2, 0, 0), (11, 0, 0), (10, 0, 0), (1, 0, 0), (1, 0, 1), (1, 0, 2), (1, 0, 3), (1, 0, 4), (1, 0, 5), (0, 0, 0), (0, 0, 1), (0, 0, 2), (0, 0, 3), (0, 0, 4), (0, 0, 5), (2, 1, 0), (11, 1, 0), (10, 1, 0), (1, 1, 0), (1, 1, 1), (1, 1, 2), (1, 1, 3), (1, 1, 4), (1, 1, 5), (0, 1, 0), (0, 1, 1), (0, 1, 2), (0, 1, 3), (0, 1, 4), (0, 1, 5), (2, 2, 0), (11, 2, 0), (10, 2, 0), (1, 2, 0), (1, 2, 1), (1, 2, 2), (1, 2, 3), (1, 2, 4), (1, 2, 5), (0, 2, 0), (0, 2, 1), (0, 2, 2), (0, 2, 3), (0, 2, 4), (0, 2, 5), (12, 0, 0), (8, 100, 0), (4, 0, 0), (8, 101, 0), (3, 0, 0)]
theorem kSe_51 : kS_50 ++ [(3, 0, 0)] = kS_51 := by decide +kernel
def qRi_X3 : MemR := (k_ur qR_X4 (6, 0, 0) 6 (some (4, 0, 0)))
def qMi_X3 : MemI := qM_X4
theorem qcli_X3 : k_cl qRi_X3 kS_51 := (kSe_51 ▸ k_cl_app (t := [(3, 0, 0)]) (k_cl_ur (k := (6, 0, 0)) (j := 6) (v := (4, 0, 0)) qcl_X4 (by decide +kernel)))
def kS_52 : List Ky := [(6, 0, 0), (2, 0, 0), (11, 0, 0), (10, 0, 0), (1, 0, 0), (1, 0, 1), (1, 0, 2), (1, 0, 3), (1, 0, 4), (1, 0, 5), (0, 0, 0), (0, 0, 1), (0, 0, 2), (0, 0, 3), (0, 0, 4), (0, 0, 5), (2, 1, 0), (11, 1, 0), (10, 1, 0), (1, 1, 0), (1, 1, 1), (1, 1, 2), (1, 1, 3), (1, 1, 4), (1, 1, 5), (0, 1, 0), (0, 1, 1), (0, 1, 2), (0, 1, 3), (0, 1, 4), (0, 1, 5), (2, 2, 0), (11, 2, 0), (10, 2, 0), (1, 2, 0), (1, 2, 1), (1, 2, 2), (1, 2, 3), (1, 2, 4), (1, 2, 5), (0, 2, 0), (0, 2, 1), (0, 2, 2), (0, 2, 3), (0, 2, 4), (0, 2, 5), (12, 0, 0), (8, 100, 0), (4, 0, 0), (8, 101, 0), (3, 0, 0), (8, 102, 0)]
theorem kSe_52 : kS_51 ++ [(8, 102, 0)] = kS_52 := by decide +kernel
def qR_X3 : MemR := (k_ur qRi_X3 (3, 0, 0) 0 (some (8, 102, 0)))
def qM_X3 : MemI := qMi_X3
theorem qcl_X3 : k_cl qR_X3 kS_52 := (k_cl_ur (k := (3, 0, 0)) (j := 0) (v := (8, 102, 0)) (kSe_52 ▸ k_cl_app (t := [(8, 102, 0)]) qcli_X3) (by decide +kernel))
theorem kSf_X3 : kS_51 ++ [(8, 102, 0)] = kS_52 := by decide +kernel
set_option maxRecDepth 100000 in
theorem cn_X3 : k_Cn kS_51 [(8, 102, 0)] Mt_X3_init 1 1 20 [vR (3, 0, 0)] qRi_X3 qMi_X3 qL_z qR_X3 qM_X3 qL_z := by
  refine k_ofVN (L0 := [vR (3, 0, 0)]) (by decide) (by decide) rfl rfl ?_
  intro p l e s m args below meth c D cy ad bs C
  have hag := k_ag_rf (ks := kS_51) (ad := ad)
  have hcl := qcli_X3
  refine k_aload_n (pc := 0) C dX3_init_0 rfl ?_
  refine k_objI (pc := 1) C ow_X3 rfl (by decide) (Nat.le_of_ble_eq_true rfl) dX3_init_1 ?_
  refine k_aload_n (pc := 4) C dX3_init_4 rfl ?_
  refine k_bipush (pc := 5) (v := (nI 20)) C dX3_init_5 (by decide) ?_
  refine k_newI (pc := 7) C hcl (8, 102, 0) (N := 20) rfl rfl rfl (by decide) (by decide +kernel) (fun _ => rfl) (k_vo_of (by decide +kernel)) (k_vo_of (by decide +kernel)) (by decide) (by decide) dX3_init_7 ?_
  intro ad1 ha1 C1
  rw [kSe_52] at C1 ⊢
  have hag2 := k_ag_sub (ks := kS_51) (by decide +kernel) hag ha1
  clear hag
  have hag := hag2
  clear hag2
  have hcl2 := k_cl_app (t := [(8, 102, 0)]) hcl
  rw [kSe_52] at hcl2
  clear hcl
  have hcl := hcl2
  clear hcl2
  clear C ha1
  have C := C1
  clear C1
  refine k_putFR (pc := 9) C rfl (Or.inr ⟨_, rfl⟩) pl_X3_9 (by decide +kernel) rfl rfl dX3_init_9 ?_
  have hcl2 := k_cl_ur (k := (3, 0, 0)) (j := 0) (v := (8, 102, 0)) hcl (by decide +kernel)
  clear hcl
  have hcl := hcl2
  clear hcl2
  rw [← kSf_X3] at C ⊢
  exact k_vretN (pc := 12) (mc := 1) (ms := 20) C rfl hag dX3_init_12
def kS_53 : List Ky := [(6, 0, 0), (2, 0, 0), (11, 0, 0), (10, 0, 0), (1, 0, 0), (1, 0, 1), (1, 0, 2), (1, 0, 3), (1, 0, 4), (1, 0, 5), (0, 0, 0), (0, 0, 1), (0, 0, 2), (0, 0, 3), (0, 0, 4), (0, 0, 5), (2, 1, 0), (11, 1, 0), (10, 1, 0), (1, 1, 0), (1, 1, 1), (1, 1, 2), (1, 1, 3), (1, 1, 4), (1, 1, 5), (0, 1, 0), (0, 1, 1), (0, 1, 2), (0, 1, 3), (0, 1, 4), (0, 1, 5), (2, 2, 0), (11, 2, 0), (10, 2, 0), (1, 2, 0), (1, 2, 1), (1, 2, 2), (1, 2, 3), (1, 2, 4), (1, 2, 5), (0, 2, 0), (0, 2, 1), (0, 2, 2), (0, 2, 3), (0, 2, 4), (0, 2, 5), (12, 0, 0), (8, 100, 0), (4, 0, 0), (8, 101, 0), (3, 0, 0), (8, 102, 0), (5, 0, 0)]
theorem kSe_53 : kS_52 ++ [(5, 0, 0)] = kS_53 := by decide +kernel
def qRi_X5_0 : MemR := (k_ur qR_X3 (6, 0, 0) 7 (some (3, 0, 0)))
def qMi_X5_0 : MemI := qM_X3
theorem qcli_X5_0 : k_cl qRi_X5_0 kS_53 := (kSe_53 ▸ k_cl_app (t := [(5, 0, 0)]) (k_cl_ur (k := (6, 0, 0)) (j := 7) (v := (3, 0, 0)) qcl_X3 (by decide +kernel)))
def kS_54 : List Ky := [(6, 0, 0), (2, 0, 0), (11, 0, 0), (10, 0, 0), (1, 0, 0), (1, 0, 1), (1, 0, 2), (1, 0, 3), (1, 0, 4), (1, 0, 5), (0, 0, 0), (0, 0, 1), (0, 0, 2), (0, 0, 3), (0, 0, 4), (0, 0, 5), (2, 1, 0), (11, 1, 0), (10, 1, 0), (1, 1, 0), (1, 1, 1), (1, 1, 2), (1, 1, 3), (1, 1, 4), (1, 1, 5), (0, 1, 0), (0, 1, 1), (0, 1, 2), (0, 1, 3), (0, 1, 4), (0, 1, 5), (2, 2, 0), (11, 2, 0), (10, 2, 0), (1, 2, 0), (1, 2, 1), (1, 2, 2), (1, 2, 3), (1, 2, 4), (1, 2, 5), (0, 2, 0), (0, 2, 1), (0, 2, 2), (0, 2, 3), (0, 2, 4), (0, 2, 5), (12, 0, 0), (8, 100, 0), (4, 0, 0), (8, 101, 0), (3, 0, 0), (8, 102, 0), (5, 0, 0), (9, 0, 0)]
theorem kSe_54 : kS_53 ++ [(9, 0, 0)] = kS_54 := by decide +kernel
def qR_X5_0 : MemR := (k_ur qRi_X5_0 (5, 0, 0) 0 (some (9, 0, 0)))
def qM_X5_0 : MemI := (k_ui (k_ui qMi_X5_0 (5, 0, 0) 1 (-1)) (5, 0, 0) 3 (-1))
theorem qcl_X5_0 : k_cl qR_X5_0 kS_54 := (k_cl_ur (k := (5, 0, 0)) (j := 0) (v := (9, 0, 0)) (kSe_54 ▸ k_cl_app (t := [(9, 0, 0)]) qcli_X5_0) (by decide +kernel))
theorem kSf_X5_0 : kS_53 ++ [(9, 0, 0)] = kS_54 := by decide +kernel
set_option maxRecDepth 100000 in
theorem cn_X5_0 : k_Cn kS_53 [(9, 0, 0)] Mt_X5_init 1 1 160 [vR (5, 0, 0)] qRi_X5_0 qMi_X5_0 qL_z qR_X5_0 qM_X5_0 qL_z := by
  refine k_ofVN (L0 := [vR (5, 0, 0)]) (by decide) (by decide) rfl rfl ?_
  intro p l e s m args below meth c D cy ad bs C
  have hag := k_ag_rf (ks := kS_53) (ad := ad)
  have hcl := qcli_X5_0
  refine k_aload_n (pc := 0) C dX5_init_0 rfl ?_
  refine k_objI (pc := 1) C ow_X5 rfl (by decide) (Nat.le_of_ble_eq_true rfl) dX5_init_1 ?_
  refine k_aload_n (pc := 4) C dX5_init_4 rfl ?_
  refine k_sipush (pc := 5) (v := (nI 160)) C dX5_init_5 (by decide) ?_
  refine k_newL (pc := 8) C hcl (9, 0, 0) (N := 160) rfl rfl rfl (by decide) (by decide +kernel) (fun _ => rfl) (k_vo_of (by decide +kernel)) (k_vo_of (by decide +kernel)) (by decide) (by decide) dX5_init_8 ?_
  intro ad1 ha1 C1
  rw [kSe_54] at C1 ⊢
  have hag2 := k_ag_sub (ks := kS_53) (by decide +kernel) hag ha1
  clear hag
  have hag := hag2
  clear hag2
  have hcl2 := k_cl_app (t := [(9, 0, 0)]) hcl
  rw [kSe_54] at hcl2
  clear hcl
  have hcl := hcl2
  clear hcl2
  clear C ha1
  have C := C1
  clear C1
  refine k_putFR (pc := 10) C rfl (Or.inr ⟨_, rfl⟩) pl_X5_9 (by decide +kernel) rfl rfl dX5_init_10 ?_
  have hcl2 := k_cl_ur (k := (5, 0, 0)) (j := 0) (v := (9, 0, 0)) hcl (by decide +kernel)
  clear hcl
  have hcl := hcl2
  clear hcl2
  refine k_aload_n (pc := 13) C dX5_init_13 rfl ?_
  refine k_iconst (pc := 14) (v := (-1)) C dX5_init_14 (by decide) ?_
  refine k_putI (pc := 15) C pl_X5_15 (by decide +kernel) rfl rfl dX5_init_15 ?_
  refine k_aload_n (pc := 18) C dX5_init_18 rfl ?_
  refine k_iconst (pc := 19) (v := (-1)) C dX5_init_19 (by decide) ?_
  refine k_putI (pc := 20) C pl_X5_19 (by decide +kernel) rfl rfl dX5_init_20 ?_
  rw [← kSf_X5_0] at C ⊢
  exact k_vretN (pc := 23) (mc := 1) (ms := 160) C rfl hag dX5_init_23
def kS_55 : List Ky := [(6, 0, 0), (2, 0, 0), (11, 0, 0), (10, 0, 0), (1, 0, 0), (1, 0, 1), (1, 0, 2), (1, 0, 3), (1, 0, 4), (1, 0, 5), (0, 0, 0), (0, 0, 1), (0, 0, 2), (0, 0, 3), (0, 0, 4), (0, 0, 5), (2, 1, 0), (11, 1, 0), (10, 1, 0), (1, 1, 0), (1, 1, 1), (1, 1, 2), (1, 1, 3), (1, 1, 4), (1, 1, 5), (0, 1, 0), (0, 1, 1), (0, 1, 2), (0, 1, 3), (0, 1, 4), (0, 1, 5), (2, 2, 0), (11, 2, 0), (10, 2, 0), (1, 2, 0), (1, 2, 1), (1, 2, 2), (1, 2, 3), (1, 2, 4), (1, 2, 5), (0, 2, 0), (0, 2, 1), (0, 2, 2), (0, 2, 3), (0, 2, 4), (0, 2, 5), (12, 0, 0), (8, 100, 0), (4, 0, 0), (8, 101, 0), (3, 0, 0), (8, 102, 0), (5, 0, 0), (9, 0, 0), (5, 0, 1)]
theorem kSe_55 : kS_54 ++ [(5, 0, 1)] = kS_55 := by decide +kernel
def qRi_X5_1 : MemR := (k_ur qR_X5_0 (12, 0, 0) 0 (some (5, 0, 0)))
def qMi_X5_1 : MemI := qM_X5_0
theorem qcli_X5_1 : k_cl qRi_X5_1 kS_55 := (kSe_55 ▸ k_cl_app (t := [(5, 0, 1)]) (k_cl_ur (k := (12, 0, 0)) (j := 0) (v := (5, 0, 0)) qcl_X5_0 (by decide +kernel)))
def kS_56 : List Ky := [(6, 0, 0), (2, 0, 0), (11, 0, 0), (10, 0, 0), (1, 0, 0), (1, 0, 1), (1, 0, 2), (1, 0, 3), (1, 0, 4), (1, 0, 5), (0, 0, 0), (0, 0, 1), (0, 0, 2), (0, 0, 3), (0, 0, 4), (0, 0, 5), (2, 1, 0), (11, 1, 0), (10, 1, 0), (1, 1, 0), (1, 1, 1), (1, 1, 2), (1, 1, 3), (1, 1, 4), (1, 1, 5), (0, 1, 0), (0, 1, 1), (0, 1, 2), (0, 1, 3), (0, 1, 4), (0, 1, 5), (2, 2, 0), (11, 2, 0), (10, 2, 0), (1, 2, 0), (1, 2, 1), (1, 2, 2), (1, 2, 3), (1, 2, 4), (1, 2, 5), (0, 2, 0), (0, 2, 1), (0, 2, 2), (0, 2, 3), (0, 2, 4), (0, 2, 5), (12, 0, 0), (8, 100, 0), (4, 0, 0), (8, 101, 0), (3, 0, 0), (8, 102, 0), (5, 0, 0), (9, 0, 0), (5, 0, 1), (9, 0, 1)]
theorem kSe_56 : kS_55 ++ [(9, 0, 1)] = kS_56 := by decide +kernel
def qR_X5_1 : MemR := (k_ur qRi_X5_1 (5, 0, 1) 0 (some (9, 0, 1)))
def qM_X5_1 : MemI := (k_ui (k_ui qMi_X5_1 (5, 0, 1) 1 (-1)) (5, 0, 1) 3 (-1))
theorem qcl_X5_1 : k_cl qR_X5_1 kS_56 := (k_cl_ur (k := (5, 0, 1)) (j := 0) (v := (9, 0, 1)) (kSe_56 ▸ k_cl_app (t := [(9, 0, 1)]) qcli_X5_1) (by decide +kernel))
theorem kSf_X5_1 : kS_55 ++ [(9, 0, 1)] = kS_56 := by decide +kernel
set_option maxRecDepth 100000 in
theorem cn_X5_1 : k_Cn kS_55 [(9, 0, 1)] Mt_X5_init 1 1 160 [vR (5, 0, 1)] qRi_X5_1 qMi_X5_1 qL_z qR_X5_1 qM_X5_1 qL_z := by
  refine k_ofVN (L0 := [vR (5, 0, 1)]) (by decide) (by decide) rfl rfl ?_
  intro p l e s m args below meth c D cy ad bs C
  have hag := k_ag_rf (ks := kS_55) (ad := ad)
  have hcl := qcli_X5_1
  refine k_aload_n (pc := 0) C dX5_init_0 rfl ?_
  refine k_objI (pc := 1) C ow_X5 rfl (by decide) (Nat.le_of_ble_eq_true rfl) dX5_init_1 ?_
  refine k_aload_n (pc := 4) C dX5_init_4 rfl ?_
  refine k_sipush (pc := 5) (v := (nI 160)) C dX5_init_5 (by decide) ?_
  refine k_newL (pc := 8) C hcl (9, 0, 1) (N := 160) rfl rfl rfl (by decide) (by decide +kernel) (fun _ => rfl) (k_vo_of (by decide +kernel)) (k_vo_of (by decide +kernel)) (by decide) (by decide) dX5_init_8 ?_
  intro ad1 ha1 C1
  rw [kSe_56] at C1 ⊢
  have hag2 := k_ag_sub (ks := kS_55) (by decide +kernel) hag ha1
  clear hag
  have hag := hag2
  clear hag2
  have hcl2 := k_cl_app (t := [(9, 0, 1)]) hcl
  rw [kSe_56] at hcl2
  clear hcl
  have hcl := hcl2
  clear hcl2
  clear C ha1
  have C := C1
  clear C1
  refine k_putFR (pc := 10) C rfl (Or.inr ⟨_, rfl⟩) pl_X5_9 (by decide +kernel) rfl rfl dX5_init_10 ?_
  have hcl2 := k_cl_ur (k := (5, 0, 1)) (j := 0) (v := (9, 0, 1)) hcl (by decide +kernel)
  clear hcl
  have hcl := hcl2
  clear hcl2
  refine k_aload_n (pc := 13) C dX5_init_13 rfl ?_
  refine k_iconst (pc := 14) (v := (-1)) C dX5_init_14 (by decide) ?_
  refine k_putI (pc := 15) C pl_X5_15 (by decide +kernel) rfl rfl dX5_init_15 ?_
  refine k_aload_n (pc := 18) C dX5_init_18 rfl ?_
  refine k_iconst (pc := 19) (v := (-1)) C dX5_init_19 (by decide) ?_
  refine k_putI (pc := 20) C pl_X5_19 (by decide +kernel) rfl rfl dX5_init_20 ?_
  rw [← kSf_X5_1] at C ⊢
  exact k_vretN (pc := 23) (mc := 1) (ms := 160) C rfl hag dX5_init_23
def kS_57 : List Ky := [(6, 0, 0), (2, 0, 0), (11, 0, 0), (10, 0, 0), (1, 0, 0), (1, 0, 1), (1, 0, 2), (1, 0, 3), (1, 0, 4), (1, 0, 5), (0, 0, 0), (0, 0, 1), (0, 0, 2), (0, 0, 3), (0, 0, 4), (0, 0, 5), (2, 1, 0), (11, 1, 0), (10, 1, 0), (1, 1, 0), (1, 1, 1), (1, 1, 2), (1, 1, 3), (1, 1, 4), (1, 1, 5), (0, 1, 0), (0, 1, 1), (0, 1, 2), (0, 1, 3), (0, 1, 4), (0, 1, 5), (2, 2, 0), (11, 2, 0), (10, 2, 0), (1, 2, 0), (1, 2, 1), (1, 2, 2), (1, 2, 3), (1, 2, 4), (1, 2, 5), (0, 2, 0), (0, 2, 1), (0, 2, 2), (0, 2, 3), (0, 2, 4), (0, 2, 5), (12, 0, 0), (8, 100, 0), (4, 0, 0), (8, 101, 0), (3, 0, 0), (8, 102, 0), (5, 0, 0), (9, 0, 0), (5, 0, 1), (9, 0, 1), (5, 0, 2)]
theorem kSe_57 : kS_56 ++ [(5, 0, 2)] = kS_57 := by decide +kernel
def qRi_X5_2 : MemR := (k_ur qR_X5_1 (12, 0, 0) 1 (some (5, 0, 1)))
def qMi_X5_2 : MemI := qM_X5_1
theorem qcli_X5_2 : k_cl qRi_X5_2 kS_57 := (kSe_57 ▸ k_cl_app (t := [(5, 0, 2)]) (k_cl_ur (k := (12, 0, 0)) (j := 1) (v := (5, 0, 1)) qcl_X5_1 (by decide +kernel)))
def kS_58 : List Ky := [(6, 0, 0), (2, 0, 0), (11, 0, 0), (10, 0, 0), (1, 0, 0), (1, 0, 1), (1, 0, 2), (1, 0, 3), (1, 0, 4), (1, 0, 5), (0, 0, 0), (0, 0, 1), (0, 0, 2), (0, 0, 3), (0, 0, 4), (0, 0, 5), (2, 1, 0), (11, 1, 0), (10, 1, 0), (1, 1, 0), (1, 1, 1), (1, 1, 2), (1, 1, 3), (1, 1, 4), (1, 1, 5), (0, 1, 0), (0, 1, 1), (0, 1, 2), (0, 1, 3), (0, 1, 4), (0, 1, 5), (2, 2, 0), (11, 2, 0), (10, 2, 0), (1, 2, 0), (1, 2, 1), (1, 2, 2), (1, 2, 3), (1, 2, 4), (1, 2, 5), (0, 2, 0), (0, 2, 1), (0, 2, 2), (0, 2, 3), (0, 2, 4), (0, 2, 5), (12, 0, 0), (8, 100, 0), (4, 0, 0), (8, 101, 0), (3, 0, 0), (8, 102, 0), (5, 0, 0), (9, 0, 0), (5, 0, 1), (9, 0, 1), (5, 0, 2), (9, 0, 2)]
theorem kSe_58 : kS_57 ++ [(9, 0, 2)] = kS_58 := by decide +kernel
def qR_X5_2 : MemR := (k_ur qRi_X5_2 (5, 0, 2) 0 (some (9, 0, 2)))
def qM_X5_2 : MemI := (k_ui (k_ui qMi_X5_2 (5, 0, 2) 1 (-1)) (5, 0, 2) 3 (-1))
theorem qcl_X5_2 : k_cl qR_X5_2 kS_58 := (k_cl_ur (k := (5, 0, 2)) (j := 0) (v := (9, 0, 2)) (kSe_58 ▸ k_cl_app (t := [(9, 0, 2)]) qcli_X5_2) (by decide +kernel))
theorem kSf_X5_2 : kS_57 ++ [(9, 0, 2)] = kS_58 := by decide +kernel
set_option maxRecDepth 100000 in
theorem cn_X5_2 : k_Cn kS_57 [(9, 0, 2)] Mt_X5_init 1 1 160 [vR (5, 0, 2)] qRi_X5_2 qMi_X5_2 qL_z qR_X5_2 qM_X5_2 qL_z := by
  refine k_ofVN (L0 := [vR (5, 0, 2)]) (by decide) (by decide) rfl rfl ?_
  intro p l e s m args below meth c D cy ad bs C
  have hag := k_ag_rf (ks := kS_57) (ad := ad)
  have hcl := qcli_X5_2
  refine k_aload_n (pc := 0) C dX5_init_0 rfl ?_
  refine k_objI (pc := 1) C ow_X5 rfl (by decide) (Nat.le_of_ble_eq_true rfl) dX5_init_1 ?_
  refine k_aload_n (pc := 4) C dX5_init_4 rfl ?_
  refine k_sipush (pc := 5) (v := (nI 160)) C dX5_init_5 (by decide) ?_
  refine k_newL (pc := 8) C hcl (9, 0, 2) (N := 160) rfl rfl rfl (by decide) (by decide +kernel) (fun _ => rfl) (k_vo_of (by decide +kernel)) (k_vo_of (by decide +kernel)) (by decide) (by decide) dX5_init_8 ?_
  intro ad1 ha1 C1
  rw [kSe_58] at C1 ⊢
  have hag2 := k_ag_sub (ks := kS_57) (by decide +kernel) hag ha1
  clear hag
  have hag := hag2
  clear hag2
  have hcl2 := k_cl_app (t := [(9, 0, 2)]) hcl
  rw [kSe_58] at hcl2
  clear hcl
  have hcl := hcl2
  clear hcl2
  clear C ha1
  have C := C1
  clear C1
  refine k_putFR (pc := 10) C rfl (Or.inr ⟨_, rfl⟩) pl_X5_9 (by decide +kernel) rfl rfl dX5_init_10 ?_
  have hcl2 := k_cl_ur (k := (5, 0, 2)) (j := 0) (v := (9, 0, 2)) hcl (by decide +kernel)
  clear hcl
  have hcl := hcl2
  clear hcl2
  refine k_aload_n (pc := 13) C dX5_init_13 rfl ?_
  refine k_iconst (pc := 14) (v := (-1)) C dX5_init_14 (by decide) ?_
  refine k_putI (pc := 15) C pl_X5_15 (by decide +kernel) rfl rfl dX5_init_15 ?_
  refine k_aload_n (pc := 18) C dX5_init_18 rfl ?_
  refine k_iconst (pc := 19) (v := (-1)) C dX5_init_19 (by decide) ?_
  refine k_putI (pc := 20) C pl_X5_19 (by decide +kernel) rfl rfl dX5_init_20 ?_
  rw [← kSf_X5_2] at C ⊢
  exact k_vretN (pc := 23) (mc := 1) (ms := 160) C rfl hag dX5_init_23
def kS_59 : List Ky := [(6, 0, 0), (2, 0, 0), (11, 0, 0), (10, 0, 0), (1, 0, 0), (1, 0, 1), (1, 0, 2), (1, 0, 3), (1, 0, 4), (1, 0, 5), (0, 0, 0), (0, 0, 1), (0, 0, 2), (0, 0, 3), (0, 0, 4), (0, 0, 5), (2, 1, 0), (11, 1, 0), (10, 1, 0), (1, 1, 0), (1, 1, 1), (1, 1, 2), (1, 1, 3), (1, 1, 4), (1, 1, 5), (0, 1, 0), (0, 1, 1), (0, 1, 2), (0, 1, 3), (0, 1, 4), (0, 1, 5), (2, 2, 0), (11, 2, 0), (10, 2, 0), (1, 2, 0), (1, 2, 1), (1, 2, 2), (1, 2, 3), (1, 2, 4), (1, 2, 5), (0, 2, 0), (0, 2, 1), (0, 2, 2), (0, 2, 3), (0, 2, 4), (0, 2, 5), (12, 0, 0), (8, 100, 0), (4, 0, 0), (8, 101, 0), (3, 0, 0), (8, 102, 0), (5, 0, 0), (9, 0, 0), (5, 0, 1), (9, 0, 1), (5, 0, 2), (9, 0, 2), (5, 0, 3)]
theorem kSe_59 : kS_58 ++ [(5, 0, 3)] = kS_59 := by decide +kernel
def qRi_X5_3 : MemR := (k_ur qR_X5_2 (12, 0, 0) 2 (some (5, 0, 2)))
def qMi_X5_3 : MemI := qM_X5_2
theorem qcli_X5_3 : k_cl qRi_X5_3 kS_59 := (kSe_59 ▸ k_cl_app (t := [(5, 0, 3)]) (k_cl_ur (k := (12, 0, 0)) (j := 2) (v := (5, 0, 2)) qcl_X5_2 (by decide +kernel)))
def kS_60 : List Ky := [(6, 0, 0), (2, 0, 0), (11, 0, 0), (10, 0, 0), (1, 0, 0), (1, 0, 1), (1, 0, 2), (1, 0, 3), (1, 0, 4), (1, 0, 5), (0, 0, 0), (0, 0, 1), (0, 0, 2), (0, 0, 3), (0, 0, 4), (0, 0, 5), (2, 1, 0), (11, 1, 0), (10, 1, 0), (1, 1, 0), (1, 1, 1), (1, 1, 2), (1, 1, 3), (1, 1, 4), (1, 1, 5), (0, 1, 0), (0, 1, 1), (0, 1, 2), (0, 1, 3), (0, 1, 4), (0, 1, 5), (2, 2, 0), (11, 2, 0), (10, 2, 0), (1, 2, 0), (1, 2, 1), (1, 2, 2), (1, 2, 3), (1, 2, 4), (1, 2, 5), (0, 2, 0), (0, 2, 1), (0, 2, 2), (0, 2, 3), (0, 2, 4), (0, 2, 5), (12, 0, 0), (8, 100, 0), (4, 0, 0), (8, 101, 0), (3, 0, 0), (8, 102, 0), (5, 0, 0), (9, 0, 0), (5, 0, 1), (9, 0, 1), (5, 0, 2), (9, 0, 2), (5, 0, 3), (9, 0, 3)]
theorem kSe_60 : kS_59 ++ [(9, 0, 3)] = kS_60 := by decide +kernel
def qR_X5_3 : MemR := (k_ur qRi_X5_3 (5, 0, 3) 0 (some (9, 0, 3)))
def qM_X5_3 : MemI := (k_ui (k_ui qMi_X5_3 (5, 0, 3) 1 (-1)) (5, 0, 3) 3 (-1))
theorem qcl_X5_3 : k_cl qR_X5_3 kS_60 := (k_cl_ur (k := (5, 0, 3)) (j := 0) (v := (9, 0, 3)) (kSe_60 ▸ k_cl_app (t := [(9, 0, 3)]) qcli_X5_3) (by decide +kernel))
theorem kSf_X5_3 : kS_59 ++ [(9, 0, 3)] = kS_60 := by decide +kernel
set_option maxRecDepth 100000 in
theorem cn_X5_3 : k_Cn kS_59 [(9, 0, 3)] Mt_X5_init 1 1 160 [vR (5, 0, 3)] qRi_X5_3 qMi_X5_3 qL_z qR_X5_3 qM_X5_3 qL_z := by
  refine k_ofVN (L0 := [vR (5, 0, 3)]) (by decide) (by decide) rfl rfl ?_
  intro p l e s m args below meth c D cy ad bs C
  have hag := k_ag_rf (ks := kS_59) (ad := ad)
  have hcl := qcli_X5_3
  refine k_aload_n (pc := 0) C dX5_init_0 rfl ?_
  refine k_objI (pc := 1) C ow_X5 rfl (by decide) (Nat.le_of_ble_eq_true rfl) dX5_init_1 ?_
  refine k_aload_n (pc := 4) C dX5_init_4 rfl ?_
  refine k_sipush (pc := 5) (v := (nI 160)) C dX5_init_5 (by decide) ?_
  refine k_newL (pc := 8) C hcl (9, 0, 3) (N := 160) rfl rfl rfl (by decide) (by decide +kernel) (fun _ => rfl) (k_vo_of (by decide +kernel)) (k_vo_of (by decide +kernel)) (by decide) (by decide) dX5_init_8 ?_
  intro ad1 ha1 C1
  rw [kSe_60] at C1 ⊢
  have hag2 := k_ag_sub (ks := kS_59) (by decide +kernel) hag ha1
  clear hag
  have hag := hag2
  clear hag2
  have hcl2 := k_cl_app (t := [(9, 0, 3)]) hcl
  rw [kSe_60] at hcl2
  clear hcl
  have hcl := hcl2
  clear hcl2
  clear C ha1
  have C := C1
  clear C1
  refine k_putFR (pc := 10) C rfl (Or.inr ⟨_, rfl⟩) pl_X5_9 (by decide +kernel) rfl rfl dX5_init_10 ?_
  have hcl2 := k_cl_ur (k := (5, 0, 3)) (j := 0) (v := (9, 0, 3)) hcl (by decide +kernel)
  clear hcl
  have hcl := hcl2
  clear hcl2
  refine k_aload_n (pc := 13) C dX5_init_13 rfl ?_
  refine k_iconst (pc := 14) (v := (-1)) C dX5_init_14 (by decide) ?_
  refine k_putI (pc := 15) C pl_X5_15 (by decide +kernel) rfl rfl dX5_init_15 ?_
  refine k_aload_n (pc := 18) C dX5_init_18 rfl ?_
  refine k_iconst (pc := 19) (v := (-1)) C dX5_init_19 (by decide) ?_
  refine k_putI (pc := 20) C pl_X5_19 (by decide +kernel) rfl rfl dX5_init_20 ?_
  rw [← kSf_X5_3] at C ⊢
  exact k_vretN (pc := 23) (mc := 1) (ms := 160) C rfl hag dX5_init_23
def kS_61 : List Ky := [(6, 0, 0), (2, 0, 0), (11, 0, 0), (10, 0, 0), (1, 0, 0), (1, 0, 1), (1, 0, 2), (1, 0, 3), (1, 0, 4), (1, 0, 5), (0, 0, 0), (0, 0, 1), (0, 0, 2), (0, 0, 3), (0, 0, 4), (0, 0, 5), (2, 1, 0), (11, 1, 0), (10, 1, 0), (1, 1, 0), (1, 1, 1), (1, 1, 2), (1, 1, 3), (1, 1, 4), (1, 1, 5), (0, 1, 0), (0, 1, 1), (0, 1, 2), (0, 1, 3), (0, 1, 4), (0, 1, 5), (2, 2, 0), (11, 2, 0), (10, 2, 0), (1, 2, 0), (1, 2, 1), (1, 2, 2), (1, 2, 3), (1, 2, 4), (1, 2, 5), (0, 2, 0), (0, 2, 1), (0, 2, 2), (0, 2, 3), (0, 2, 4), (0, 2, 5), (12, 0, 0), (8, 100, 0), (4, 0, 0), (8, 101, 0), (3, 0, 0), (8, 102, 0), (5, 0, 0), (9, 0, 0), (5, 0, 1), (9, 0, 1), (5, 0, 2), (9, 0, 2), (5, 0, 3), (9, 0, 3), (5, 0, 4)]
theorem kSe_61 : kS_60 ++ [(5, 0, 4)] = kS_61 := by decide +kernel
def qRi_X5_4 : MemR := (k_ur qR_X5_3 (12, 0, 0) 3 (some (5, 0, 3)))
def qMi_X5_4 : MemI := qM_X5_3
theorem qcli_X5_4 : k_cl qRi_X5_4 kS_61 := (kSe_61 ▸ k_cl_app (t := [(5, 0, 4)]) (k_cl_ur (k := (12, 0, 0)) (j := 3) (v := (5, 0, 3)) qcl_X5_3 (by decide +kernel)))
def kS_62 : List Ky := [(6, 0, 0), (2, 0, 0), (11, 0, 0), (10, 0, 0), (1, 0, 0), (1, 0, 1), (1, 0, 2), (1, 0, 3), (1, 0, 4), (1, 0, 5), (0, 0, 0), (0, 0, 1), (0, 0, 2), (0, 0, 3), (0, 0, 4), (0, 0, 5), (2, 1, 0), (11, 1, 0), (10, 1, 0), (1, 1, 0), (1, 1, 1), (1, 1, 2), (1, 1, 3), (1, 1, 4), (1, 1, 5), (0, 1, 0), (0, 1, 1), (0, 1, 2), (0, 1, 3), (0, 1, 4), (0, 1, 5), (2, 2, 0), (11, 2, 0), (10, 2, 0), (1, 2, 0), (1, 2, 1), (1, 2, 2), (1, 2, 3), (1, 2, 4), (1, 2, 5), (0, 2, 0), (0, 2, 1), (0, 2, 2), (0, 2, 3), (0, 2, 4), (0, 2, 5), (12, 0, 0), (8, 100, 0), (4, 0, 0), (8, 101, 0), (3, 0, 0), (8, 102, 0), (5, 0, 0), (9, 0, 0), (5, 0, 1), (9, 0, 1), (5, 0, 2), (9, 0, 2), (5, 0, 3), (9, 0, 3), (5, 0, 4), (9, 0, 4)]
theorem kSe_62 : kS_61 ++ [(9, 0, 4)] = kS_62 := by decide +kernel
def qR_X5_4 : MemR := (k_ur qRi_X5_4 (5, 0, 4) 0 (some (9, 0, 4)))
def qM_X5_4 : MemI := (k_ui (k_ui qMi_X5_4 (5, 0, 4) 1 (-1)) (5, 0, 4) 3 (-1))
theorem qcl_X5_4 : k_cl qR_X5_4 kS_62 := (k_cl_ur (k := (5, 0, 4)) (j := 0) (v := (9, 0, 4)) (kSe_62 ▸ k_cl_app (t := [(9, 0, 4)]) qcli_X5_4) (by decide +kernel))
theorem kSf_X5_4 : kS_61 ++ [(9, 0, 4)] = kS_62 := by decide +kernel
set_option maxRecDepth 100000 in
theorem cn_X5_4 : k_Cn kS_61 [(9, 0, 4)] Mt_X5_init 1 1 160 [vR (5, 0, 4)] qRi_X5_4 qMi_X5_4 qL_z qR_X5_4 qM_X5_4 qL_z := by
  refine k_ofVN (L0 := [vR (5, 0, 4)]) (by decide) (by decide) rfl rfl ?_
  intro p l e s m args below meth c D cy ad bs C
  have hag := k_ag_rf (ks := kS_61) (ad := ad)
  have hcl := qcli_X5_4
  refine k_aload_n (pc := 0) C dX5_init_0 rfl ?_
  refine k_objI (pc := 1) C ow_X5 rfl (by decide) (Nat.le_of_ble_eq_true rfl) dX5_init_1 ?_
  refine k_aload_n (pc := 4) C dX5_init_4 rfl ?_
  refine k_sipush (pc := 5) (v := (nI 160)) C dX5_init_5 (by decide) ?_
  refine k_newL (pc := 8) C hcl (9, 0, 4) (N := 160) rfl rfl rfl (by decide) (by decide +kernel) (fun _ => rfl) (k_vo_of (by decide +kernel)) (k_vo_of (by decide +kernel)) (by decide) (by decide) dX5_init_8 ?_
  intro ad1 ha1 C1
  rw [kSe_62] at C1 ⊢
  have hag2 := k_ag_sub (ks := kS_61) (by decide +kernel) hag ha1
  clear hag
  have hag := hag2
  clear hag2
  have hcl2 := k_cl_app (t := [(9, 0, 4)]) hcl
  rw [kSe_62] at hcl2
  clear hcl
  have hcl := hcl2
  clear hcl2
  clear C ha1
  have C := C1
  clear C1
  refine k_putFR (pc := 10) C rfl (Or.inr ⟨_, rfl⟩) pl_X5_9 (by decide +kernel) rfl rfl dX5_init_10 ?_
  have hcl2 := k_cl_ur (k := (5, 0, 4)) (j := 0) (v := (9, 0, 4)) hcl (by decide +kernel)
  clear hcl
  have hcl := hcl2
  clear hcl2
  refine k_aload_n (pc := 13) C dX5_init_13 rfl ?_
  refine k_iconst (pc := 14) (v := (-1)) C dX5_init_14 (by decide) ?_
  refine k_putI (pc := 15) C pl_X5_15 (by decide +kernel) rfl rfl dX5_init_15 ?_
  refine k_aload_n (pc := 18) C dX5_init_18 rfl ?_
  refine k_iconst (pc := 19) (v := (-1)) C dX5_init_19 (by decide) ?_
  refine k_putI (pc := 20) C pl_X5_19 (by decide +kernel) rfl rfl dX5_init_20 ?_
  rw [← kSf_X5_4] at C ⊢
  exact k_vretN (pc := 23) (mc := 1) (ms := 160) C rfl hag dX5_init_23
def kS_63 : List Ky := [(6, 0, 0), (2, 0, 0), (11, 0, 0), (10, 0, 0), (1, 0, 0), (1, 0, 1), (1, 0, 2), (1, 0, 3), (1, 0, 4), (1, 0, 5), (0, 0, 0), (0, 0, 1), (0, 0, 2), (0, 0, 3), (0, 0, 4), (0, 0, 5), (2, 1, 0), (11, 1, 0), (10, 1, 0), (1, 1, 0), (1, 1, 1), (1, 1, 2), (1, 1, 3), (1, 1, 4), (1, 1, 5), (0, 1, 0), (0, 1, 1), (0, 1, 2), (0, 1, 3), (0, 1, 4), (0, 1, 5), (2, 2, 0), (11, 2, 0), (10, 2, 0), (1, 2, 0), (1, 2, 1), (1, 2, 2), (1, 2, 3), (1, 2, 4), (1, 2, 5), (0, 2, 0), (0, 2, 1), (0, 2, 2), (0, 2, 3), (0, 2, 4), (0, 2, 5), (12, 0, 0), (8, 100, 0), (4, 0, 0), (8, 101, 0), (3, 0, 0), (8, 102, 0), (5, 0, 0), (9, 0, 0), (5, 0, 1), (9, 0, 1), (5, 0, 2), (9, 0, 2), (5, 0, 3), (9, 0, 3), (5, 0, 4), (9, 0, 4), (5, 0, 5)]
theorem kSe_63 : kS_62 ++ [(5, 0, 5)] = kS_63 := by decide +kernel
def qRi_X5_5 : MemR := (k_ur qR_X5_4 (12, 0, 0) 4 (some (5, 0, 4)))
def qMi_X5_5 : MemI := qM_X5_4
theorem qcli_X5_5 : k_cl qRi_X5_5 kS_63 := (kSe_63 ▸ k_cl_app (t := [(5, 0, 5)]) (k_cl_ur (k := (12, 0, 0)) (j := 4) (v := (5, 0, 4)) qcl_X5_4 (by decide +kernel)))
def kS_64 : List Ky := [(6, 0, 0), (2, 0, 0), (11, 0, 0), (10, 0, 0), (1, 0, 0), (1, 0, 1), (1, 0, 2), (1, 0, 3), (1, 0, 4), (1, 0, 5), (0, 0, 0), (0, 0, 1), (0, 0, 2), (0, 0, 3), (0, 0, 4), (0, 0, 5), (2, 1, 0), (11, 1, 0), (10, 1, 0), (1, 1, 0), (1, 1, 1), (1, 1, 2), (1, 1, 3), (1, 1, 4), (1, 1, 5), (0, 1, 0), (0, 1, 1), (0, 1, 2), (0, 1, 3), (0, 1, 4), (0, 1, 5), (2, 2, 0), (11, 2, 0), (10, 2, 0), (1, 2, 0), (1, 2, 1), (1, 2, 2), (1, 2, 3), (1, 2, 4), (1, 2, 5), (0, 2, 0), (0, 2, 1), (0, 2, 2), (0, 2, 3), (0, 2, 4), (0, 2, 5), (12, 0, 0), (8, 100, 0), (4, 0, 0), (8, 101, 0), (3, 0, 0), (8, 102, 0), (5, 0, 0), (9, 0, 0), (5, 0, 1), (9, 0, 1), (5, 0, 2), (9, 0, 2), (5, 0, 3), (9, 0, 3), (5, 0, 4), (9, 0, 4), (5, 0, 5), (9, 0, 5)]
theorem kSe_64 : kS_63 ++ [(9, 0, 5)] = kS_64 := by decide +kernel
def qR_X5_5 : MemR := (k_ur qRi_X5_5 (5, 0, 5) 0 (some (9, 0, 5)))
def qM_X5_5 : MemI := (k_ui (k_ui qMi_X5_5 (5, 0, 5) 1 (-1)) (5, 0, 5) 3 (-1))
theorem qcl_X5_5 : k_cl qR_X5_5 kS_64 := (k_cl_ur (k := (5, 0, 5)) (j := 0) (v := (9, 0, 5)) (kSe_64 ▸ k_cl_app (t := [(9, 0, 5)]) qcli_X5_5) (by decide +kernel))
theorem kSf_X5_5 : kS_63 ++ [(9, 0, 5)] = kS_64 := by decide +kernel
set_option maxRecDepth 100000 in
theorem cn_X5_5 : k_Cn kS_63 [(9, 0, 5)] Mt_X5_init 1 1 160 [vR (5, 0, 5)] qRi_X5_5 qMi_X5_5 qL_z qR_X5_5 qM_X5_5 qL_z := by
  refine k_ofVN (L0 := [vR (5, 0, 5)]) (by decide) (by decide) rfl rfl ?_
  intro p l e s m args below meth c D cy ad bs C
  have hag := k_ag_rf (ks := kS_63) (ad := ad)
  have hcl := qcli_X5_5
  refine k_aload_n (pc := 0) C dX5_init_0 rfl ?_
  refine k_objI (pc := 1) C ow_X5 rfl (by decide) (Nat.le_of_ble_eq_true rfl) dX5_init_1 ?_
  refine k_aload_n (pc := 4) C dX5_init_4 rfl ?_
  refine k_sipush (pc := 5) (v := (nI 160)) C dX5_init_5 (by decide) ?_
  refine k_newL (pc := 8) C hcl (9, 0, 5) (N := 160) rfl rfl rfl (by decide) (by decide +kernel) (fun _ => rfl) (k_vo_of (by decide +kernel)) (k_vo_of (by decide +kernel)) (by decide) (by decide) dX5_init_8 ?_
  intro ad1 ha1 C1
  rw [kSe_64] at C1 ⊢
  have hag2 := k_ag_sub (ks := kS_63) (by decide +kernel) hag ha1
  clear hag
  have hag := hag2
  clear hag2
  have hcl2 := k_cl_app (t := [(9, 0, 5)]) hcl
  rw [kSe_64] at hcl2
  clear hcl
  have hcl := hcl2
  clear hcl2
  clear C ha1
  have C := C1
  clear C1
  refine k_putFR (pc := 10) C rfl (Or.inr ⟨_, rfl⟩) pl_X5_9 (by decide +kernel) rfl rfl dX5_init_10 ?_
  have hcl2 := k_cl_ur (k := (5, 0, 5)) (j := 0) (v := (9, 0, 5)) hcl (by decide +kernel)
  clear hcl
  have hcl := hcl2
  clear hcl2
  refine k_aload_n (pc := 13) C dX5_init_13 rfl ?_
  refine k_iconst (pc := 14) (v := (-1)) C dX5_init_14 (by decide) ?_
  refine k_putI (pc := 15) C pl_X5_15 (by decide +kernel) rfl rfl dX5_init_15 ?_
  refine k_aload_n (pc := 18) C dX5_init_18 rfl ?_
  refine k_iconst (pc := 19) (v := (-1)) C dX5_init_19 (by decide) ?_
  refine k_putI (pc := 20) C pl_X5_19 (by decide +kernel) rfl rfl dX5_init_20 ?_
  rw [← kSf_X5_5] at C ⊢
  exact k_vretN (pc := 23) (mc := 1) (ms := 160) C rfl hag dX5_init_23
def kS_65 : List Ky := [(6, 0, 0), (2, 0, 0), (11, 0, 0), (10, 0, 0), (1, 0, 0), (1, 0, 1), (1, 0, 2), (1, 0, 3), (1, 0, 4), (1, 0, 5), (0, 0, 0), (0, 0, 1), (0, 0, 2), (0, 0, 3), (0, 0, 4), (0, 0, 5), (2, 1, 0), (11, 1, 0), (10, 1, 0), (1, 1, 0), (1, 1, 1), (1, 1, 2), (1, 1, 3), (1, 1, 4), (1, 1, 5), (0, 1, 0), (0, 1, 1), (0, 1, 2), (0, 1, 3), (0, 1, 4), (0, 1, 5), (2, 2, 0), (11, 2, 0), (10, 2, 0), (1, 2, 0), (1, 2, 1), (1, 2, 2), (1, 2, 3), (1, 2, 4), (1, 2, 5), (0, 2, 0), (0, 2, 1), (0, 2, 2), (0, 2, 3), (0, 2, 4), (0, 2, 5), (12, 0, 0), (8, 100, 0), (4, 0, 0), (8, 101, 0), (3, 0, 0), (8, 102, 0), (5, 0, 0), (9, 0, 0), (5, 0, 1), (9, 0, 1), (5, 0, 2), (9, 0, 2), (5, 0, 3), (9, 0, 3), (5, 0, 4), (9, 0, 4), (5, 0, 5), (9, 0, 5), (5, 0, 6)]
theorem kSe_65 : kS_64 ++ [(5, 0, 6)] = kS_65 := by decide +kernel
def qRi_X5_6 : MemR := (k_ur qR_X5_5 (12, 0, 0) 5 (some (5, 0, 5)))
def qMi_X5_6 : MemI := qM_X5_5
theorem qcli_X5_6 : k_cl qRi_X5_6 kS_65 := (kSe_65 ▸ k_cl_app (t := [(5, 0, 6)]) (k_cl_ur (k := (12, 0, 0)) (j := 5) (v := (5, 0, 5)) qcl_X5_5 (by decide +kernel)))
def kS_66 : List Ky := [(6, 0, 0), (2, 0, 0), (11, 0, 0), (10, 0, 0), (1, 0, 0), (1, 0, 1), (1, 0, 2), (1, 0, 3), (1, 0, 4), (1, 0, 5), (0, 0, 0), (0, 0, 1), (0, 0, 2), (0, 0, 3), (0, 0, 4), (0, 0, 5), (2, 1, 0), (11, 1, 0), (10, 1, 0), (1, 1, 0), (1, 1, 1), (1, 1, 2), (1, 1, 3), (1, 1, 4), (1, 1, 5), (0, 1, 0), (0, 1, 1), (0, 1, 2), (0, 1, 3), (0, 1, 4), (0, 1, 5), (2, 2, 0), (11, 2, 0), (10, 2, 0), (1, 2, 0), (1, 2, 1), (1, 2, 2), (1, 2, 3), (1, 2, 4), (1, 2, 5), (0, 2, 0), (0, 2, 1), (0, 2, 2), (0, 2, 3), (0, 2, 4), (0, 2, 5), (12, 0, 0), (8, 100, 0), (4, 0, 0), (8, 101, 0), (3, 0, 0), (8, 102, 0), (5, 0, 0), (9, 0, 0), (5, 0, 1), (9, 0, 1), (5, 0, 2), (9, 0, 2), (5, 0, 3), (9, 0, 3), (5, 0, 4), (9, 0, 4), (5, 0, 5), (9, 0, 5), (5, 0, 6), (9, 0, 6)]
theorem kSe_66 : kS_65 ++ [(9, 0, 6)] = kS_66 := by decide +kernel
def qR_X5_6 : MemR := (k_ur qRi_X5_6 (5, 0, 6) 0 (some (9, 0, 6)))
def qM_X5_6 : MemI := (k_ui (k_ui qMi_X5_6 (5, 0, 6) 1 (-1)) (5, 0, 6) 3 (-1))
theorem qcl_X5_6 : k_cl qR_X5_6 kS_66 := (k_cl_ur (k := (5, 0, 6)) (j := 0) (v := (9, 0, 6)) (kSe_66 ▸ k_cl_app (t := [(9, 0, 6)]) qcli_X5_6) (by decide +kernel))
theorem kSf_X5_6 : kS_65 ++ [(9, 0, 6)] = kS_66 := by decide +kernel
set_option maxRecDepth 100000 in
theorem cn_X5_6 : k_Cn kS_65 [(9, 0, 6)] Mt_X5_init 1 1 160 [vR (5, 0, 6)] qRi_X5_6 qMi_X5_6 qL_z qR_X5_6 qM_X5_6 qL_z := by
  refine k_ofVN (L0 := [vR (5, 0, 6)]) (by decide) (by decide) rfl rfl ?_
  intro p l e s m args below meth c D cy ad bs C
  have hag := k_ag_rf (ks := kS_65) (ad := ad)
  have hcl := qcli_X5_6
  refine k_aload_n (pc := 0) C dX5_init_0 rfl ?_
  refine k_objI (pc := 1) C ow_X5 rfl (by decide) (Nat.le_of_ble_eq_true rfl) dX5_init_1 ?_
  refine k_aload_n (pc := 4) C dX5_init_4 rfl ?_
  refine k_sipush (pc := 5) (v := (nI 160)) C dX5_init_5 (by decide) ?_
  refine k_newL (pc := 8) C hcl (9, 0, 6) (N := 160) rfl rfl rfl (by decide) (by decide +kernel) (fun _ => rfl) (k_vo_of (by decide +kernel)) (k_vo_of (by decide +kernel)) (by decide) (by decide) dX5_init_8 ?_
  intro ad1 ha1 C1
  rw [kSe_66] at C1 ⊢
  have hag2 := k_ag_sub (ks := kS_65) (by decide +kernel) hag ha1
  clear hag
  have hag := hag2
  clear hag2
  have hcl2 := k_cl_app (t := [(9, 0, 6)]) hcl
  rw [kSe_66] at hcl2
  clear hcl
  have hcl := hcl2
  clear hcl2
  clear C ha1
  have C := C1
  clear C1
  refine k_putFR (pc := 10) C rfl (Or.inr ⟨_, rfl⟩) pl_X5_9 (by decide +kernel) rfl rfl dX5_init_10 ?_
  have hcl2 := k_cl_ur (k := (5, 0, 6)) (j := 0) (v := (9, 0, 6)) hcl (by decide +kernel)
  clear hcl
  have hcl := hcl2
  clear hcl2
  refine k_aload_n (pc := 13) C dX5_init_13 rfl ?_
  refine k_iconst (pc := 14) (v := (-1)) C dX5_init_14 (by decide) ?_
  refine k_putI (pc := 15) C pl_X5_15 (by decide +kernel) rfl rfl dX5_init_15 ?_
  refine k_aload_n (pc := 18) C dX5_init_18 rfl ?_
  refine k_iconst (pc := 19) (v := (-1)) C dX5_init_19 (by decide) ?_
  refine k_putI (pc := 20) C pl_X5_19 (by decide +kernel) rfl rfl dX5_init_20 ?_
  rw [← kSf_X5_6] at C ⊢
  exact k_vretN (pc := 23) (mc := 1) (ms := 160) C rfl hag dX5_init_23
def kS_67 : List Ky := [(6, 0, 0), (2, 0, 0), (11, 0, 0), (10, 0, 0), (1, 0, 0), (1, 0, 1), (1, 0, 2), (1, 0, 3), (1, 0, 4), (1, 0, 5), (0, 0, 0), (0, 0, 1), (0, 0, 2), (0, 0, 3), (0, 0, 4), (0, 0, 5), (2, 1, 0), (11, 1, 0), (10, 1, 0), (1, 1, 0), (1, 1, 1), (1, 1, 2), (1, 1, 3), (1, 1, 4), (1, 1, 5), (0, 1, 0), (0, 1, 1), (0, 1, 2), (0, 1, 3), (0, 1, 4), (0, 1, 5), (2, 2, 0), (11, 2, 0), (10, 2, 0), (1, 2, 0), (1, 2, 1), (1, 2, 2), (1, 2, 3), (1, 2, 4), (1, 2, 5), (0, 2, 0), (0, 2, 1), (0, 2, 2), (0, 2, 3), (0, 2, 4), (0, 2, 5), (12, 0, 0), (8, 100, 0), (4, 0, 0), (8, 101, 0), (3, 0, 0), (8, 102, 0), (5, 0, 0), (9, 0, 0), (5, 0, 1), (9, 0, 1), (5, 0, 2), (9, 0, 2), (5, 0, 3), (9, 0, 3), (5, 0, 4), (9, 0, 4), (5, 0, 5), (9, 0, 5), (5, 0, 6), (9, 0, 6), (5, 0, 7)]
theorem kSe_67 : kS_66 ++ [(5, 0, 7)] = kS_67 := by decide +kernel
def qRi_X5_7 : MemR := (k_ur qR_X5_6 (12, 0, 0) 6 (some (5, 0, 6)))
def qMi_X5_7 : MemI := qM_X5_6
theorem qcli_X5_7 : k_cl qRi_X5_7 kS_67 := (kSe_67 ▸ k_cl_app (t := [(5, 0, 7)]) (k_cl_ur (k := (12, 0, 0)) (j := 6) (v := (5, 0, 6)) qcl_X5_6 (by decide +kernel)))
def kS_68 : List Ky := [(6, 0, 0), (2, 0, 0), (11, 0, 0), (10, 0, 0), (1, 0, 0), (1, 0, 1), (1, 0, 2), (1, 0, 3), (1, 0, 4), (1, 0, 5), (0, 0, 0), (0, 0, 1), (0, 0, 2), (0, 0, 3), (0, 0, 4), (0, 0, 5), (2, 1, 0), (11, 1, 0), (10, 1, 0), (1, 1, 0), (1, 1, 1), (1, 1, 2), (1, 1, 3), (1, 1, 4), (1, 1, 5), (0, 1, 0), (0, 1, 1), (0, 1, 2), (0, 1, 3), (0, 1, 4), (0, 1, 5), (2, 2, 0), (11, 2, 0), (10, 2, 0), (1, 2, 0), (1, 2, 1), (1, 2, 2), (1, 2, 3), (1, 2, 4), (1, 2, 5), (0, 2, 0), (0, 2, 1), (0, 2, 2), (0, 2, 3), (0, 2, 4), (0, 2, 5), (12, 0, 0), (8, 100, 0), (4, 0, 0), (8, 101, 0), (3, 0, 0), (8, 102, 0), (5, 0, 0), (9, 0, 0), (5, 0, 1), (9, 0, 1), (5, 0, 2), (9, 0, 2), (5, 0, 3), (9, 0, 3), (5, 0, 4), (9, 0, 4), (5, 0, 5), (9, 0, 5), (5, 0, 6), (9, 0, 6), (5, 0, 7), (9, 0, 7)]
theorem kSe_68 : kS_67 ++ [(9, 0, 7)] = kS_68 := by decide +kernel
def qR_X5_7 : MemR := (k_ur qRi_X5_7 (5, 0, 7) 0 (some (9, 0, 7)))
def qM_X5_7 : MemI := (k_ui (k_ui qMi_X5_7 (5, 0, 7) 1 (-1)) (5, 0, 7) 3 (-1))
theorem qcl_X5_7 : k_cl qR_X5_7 kS_68 := (k_cl_ur (k := (5, 0, 7)) (j := 0) (v := (9, 0, 7)) (kSe_68 ▸ k_cl_app (t := [(9, 0, 7)]) qcli_X5_7) (by decide +kernel))
theorem kSf_X5_7 : kS_67 ++ [(9, 0, 7)] = kS_68 := by decide +kernel
set_option maxRecDepth 100000 in
theorem cn_X5_7 : k_Cn kS_67 [(9, 0, 7)] Mt_X5_init 1 1 160 [vR (5, 0, 7)] qRi_X5_7 qMi_X5_7 qL_z qR_X5_7 qM_X5_7 qL_z := by
  refine k_ofVN (L0 := [vR (5, 0, 7)]) (by decide) (by decide) rfl rfl ?_
  intro p l e s m args below meth c D cy ad bs C
  have hag := k_ag_rf (ks := kS_67) (ad := ad)
  have hcl := qcli_X5_7
  refine k_aload_n (pc := 0) C dX5_init_0 rfl ?_
  refine k_objI (pc := 1) C ow_X5 rfl (by decide) (Nat.le_of_ble_eq_true rfl) dX5_init_1 ?_
  refine k_aload_n (pc := 4) C dX5_init_4 rfl ?_
  refine k_sipush (pc := 5) (v := (nI 160)) C dX5_init_5 (by decide) ?_
  refine k_newL (pc := 8) C hcl (9, 0, 7) (N := 160) rfl rfl rfl (by decide) (by decide +kernel) (fun _ => rfl) (k_vo_of (by decide +kernel)) (k_vo_of (by decide +kernel)) (by decide) (by decide) dX5_init_8 ?_
  intro ad1 ha1 C1
  rw [kSe_68] at C1 ⊢
  have hag2 := k_ag_sub (ks := kS_67) (by decide +kernel) hag ha1
  clear hag
  have hag := hag2
  clear hag2
  have hcl2 := k_cl_app (t := [(9, 0, 7)]) hcl
  rw [kSe_68] at hcl2
  clear hcl
  have hcl := hcl2
  clear hcl2
  clear C ha1
  have C := C1
  clear C1
  refine k_putFR (pc := 10) C rfl (Or.inr ⟨_, rfl⟩) pl_X5_9 (by decide +kernel) rfl rfl dX5_init_10 ?_
  have hcl2 := k_cl_ur (k := (5, 0, 7)) (j := 0) (v := (9, 0, 7)) hcl (by decide +kernel)
  clear hcl
  have hcl := hcl2
  clear hcl2
  refine k_aload_n (pc := 13) C dX5_init_13 rfl ?_
  refine k_iconst (pc := 14) (v := (-1)) C dX5_init_14 (by decide) ?_
  refine k_putI (pc := 15) C pl_X5_15 (by decide +kernel) rfl rfl dX5_init_15 ?_
  refine k_aload_n (pc := 18) C dX5_init_18 rfl ?_
  refine k_iconst (pc := 19) (v := (-1)) C dX5_init_19 (by decide) ?_
  refine k_putI (pc := 20) C pl_X5_19 (by decide +kernel) rfl rfl dX5_init_20 ?_
  rw [← kSf_X5_7] at C ⊢
  exact k_vretN (pc := 23) (mc := 1) (ms := 160) C rfl hag dX5_init_23
def qR_X6 : MemR := (k_ur qR_X5_7 (12, 0, 0) 7 (some (5, 0, 7)))
def qM_X6 : MemI := qM_X5_7
theorem qcl_X6 : k_cl qR_X6 kS_68 := (k_cl_ur (k := (12, 0, 0)) (j := 7) (v := (5, 0, 7)) qcl_X5_7 (by decide +kernel))
theorem kSf_X6 : kS_1 ++ [(2, 0, 0), (11, 0, 0), (10, 0, 0), (1, 0, 0), (1, 0, 1), (1, 0, 2), (1, 0, 3), (1, 0, 4), (1, 0, 5), (0, 0, 0), (0, 0, 1), (0, 0, 2), (0, 0, 3), (0, 0, 4), (0, 0, 5), (2, 1, 0), (11, 1, 0), (10, 1, 0), (1, 1, 0), (1, 1, 1), (1, 1, 2), (1, 1, 3), (1, 1, 4), (1, 1, 5), (0, 1, 0), (0, 1, 1), (0, 1, 2), (0, 1, 3), (0, 1, 4), (0, 1, 5), (2, 2, 0), (11, 2, 0), (10, 2, 0), (1, 2, 0), (1, 2, 1), (1, 2, 2), (1, 2, 3), (1, 2, 4), (1, 2, 5), (0, 2, 0), (0, 2, 1), (0, 2, 2), (0, 2, 3), (0, 2, 4), (0, 2, 5), (12, 0, 0), (8, 100, 0), (4, 0, 0), (8, 101, 0), (3, 0, 0), (8, 102, 0), (5, 0, 0), (9, 0, 0), (5, 0, 1), (9, 0, 1), (5, 0, 2), (9, 0, 2), (5, 0, 3), (9, 0, 3), (5, 0, 4), (9, 0, 4), (5, 0, 5), (9, 0, 5), (5, 0, 6), (9, 0, 6), (5, 0, 7), (9, 0, 7)] = kS_68 := by decide +kernel
set_option maxRecDepth 100000 in
theorem cn_X6 : k_Cn kS_1 [(2, 0, 0), (11, 0, 0), (10, 0, 0), (1, 0, 0), (1, 0, 1), (1, 0, 2), (1, 0, 3), (1, 0, 4), (1, 0, 5), (0, 0, 0), (0, 0, 1), (0, 0, 2), (0, 0, 3), (0, 0, 4), (0, 0, 5), (2, 1, 0), (11, 1, 0), (10, 1, 0), (1, 1, 0), (1, 1, 1), (1, 1, 2), (1, 1, 3), (1, 1, 4), (1, 1, 5), (0, 1, 0), (0, 1, 1), (0, 1, 2), (0, 1, 3), (0, 1, 4), (0, 1, 5), (2, 2, 0), (11, 2, 0), (10, 2, 0), (1, 2, 0), (1, 2, 1), (1, 2, 2), (1, 2, 3), (1, 2, 4), (1, 2, 5), (0, 2, 0), (0, 2, 1), (0, 2, 2), (0, 2, 3), (0, 2, 4), (0, 2, 5), (12, 0, 0), (8, 100, 0), (4, 0, 0), (8, 101, 0), (3, 0, 0), (8, 102, 0), (5, 0, 0), (9, 0, 0), (5, 0, 1), (9, 0, 1), (5, 0, 2), (9, 0, 2), (5, 0, 3), (9, 0, 3), (5, 0, 4), (9, 0, 4), (5, 0, 5), (9, 0, 5), (5, 0, 6), (9, 0, 6), (5, 0, 7), (9, 0, 7)] Mt_X6_init 3 67 2063 [vR (6, 0, 0)] qRi_X6 qMi_X6 qL_z qR_X6 qM_X6 qL_z := by
  refine k_ofVN (L0 := [vR (6, 0, 0), vU]) (by decide) (by decide) rfl rfl ?_
  intro p l e s m args below meth c D cy ad bs C
  have hag := k_ag_rf (ks := kS_1) (ad := ad)
  have hcl := qcli_X6
  refine k_aload_n (pc := 0) C dX6_init_0 rfl ?_
  refine k_objI (pc := 1) C ow_X6 rfl (by decide) (Nat.le_of_ble_eq_true rfl) dX6_init_1 ?_
  refine k_aload_n (pc := 4) C dX6_init_4 rfl ?_
  refine k_newO (pc := 5) (kk := (2, 0, 0)) C hcl tyX2 cl_X2 rfl (by decide +kernel) (fun _ => rfl) (fun _ => rfl) tyX2_ok df_X2 wl_X6_7 wi_X2 wn_X2 (k_vo_of (by decide +kernel)) (k_vo_of (by decide +kernel)) (by decide) (by decide) dX6_init_5 ?_
  intro ad1 ha1 C1
  rw [kSe_2] at C1 ⊢
  have hag2 := k_ag_sub (ks := kS_1) (by decide +kernel) hag ha1
  clear hag
  have hag := hag2
  clear hag2
  have hcl2 := k_cl_app (t := [(2, 0, 0)]) hcl
  rw [kSe_2] at hcl2
  clear hcl
  have hcl := hcl2
  clear hcl2
  clear C ha1
  have C := C1
  clear C1
  refine k_dup (pc := 8) C dX6_init_8 rfl ?_
  refine k_callN (pc := 9) C cI_X6_9 cn_X2_0 rfl rfl rfl (by decide) (by decide) rfl (Nat.le_of_ble_eq_true rfl) (k_vo_of (by decide +kernel)) (k_vo_of (by decide +kernel)) dX6_init_9 ?_
  intro ad1 ha1 C1
  rw [kSf_X2_0] at C1 ⊢
  have hag2 := k_ag_sub (ks := kS_1) (by decide +kernel) hag ha1
  clear hag
  have hag := hag2
  clear hag2
  clear hcl
  have hcl := qcl_X2_0
  clear C ha1
  have C := C1
  clear C1
  refine k_putFR (pc := 12) C rfl (Or.inl ⟨_, rfl⟩) pl_X6_10 (by decide +kernel) rfl rfl dX6_init_12 ?_
  have hcl2 := k_cl_ur (k := (6, 0, 0)) (j := 0) (v := (2, 0, 0)) hcl (by decide +kernel)
  clear hcl
  have hcl := hcl2
  clear hcl2
  refine k_aload_n (pc := 15) C dX6_init_15 rfl ?_
  refine k_newO (pc := 16) (kk := (2, 1, 0)) C hcl tyX2 cl_X2 rfl (by decide +kernel) (fun _ => rfl) (fun _ => rfl) tyX2_ok df_X2 wl_X6_7 wi_X2 wn_X2 (k_vo_of (by decide +kernel)) (k_vo_of (by decide +kernel)) (by decide) (by decide) dX6_init_16 ?_
  intro ad1 ha1 C1
  rw [kSe_17] at C1 ⊢
  have hag2 := k_ag_sub (ks := kS_1) (by decide +kernel) hag ha1
  clear hag
  have hag := hag2
  clear hag2
  have hcl2 := k_cl_app (t := [(2, 1, 0)]) hcl
  rw [kSe_17] at hcl2
  clear hcl
  have hcl := hcl2
  clear hcl2
  clear C ha1
  have C := C1
  clear C1
  refine k_dup (pc := 19) C dX6_init_19 rfl ?_
  refine k_callN (pc := 20) C cI_X6_9 cn_X2_1 rfl rfl rfl (by decide) (by decide) rfl (Nat.le_of_ble_eq_true rfl) (k_vo_of (by decide +kernel)) (k_vo_of (by decide +kernel)) dX6_init_20 ?_
  intro ad1 ha1 C1
  rw [kSf_X2_1] at C1 ⊢
  have hag2 := k_ag_sub (ks := kS_1) (by decide +kernel) hag ha1
  clear hag
  have hag := hag2
  clear hag2
  clear hcl
  have hcl := qcl_X2_1
  clear C ha1
  have C := C1
  clear C1
  refine k_putFR (pc := 23) C rfl (Or.inl ⟨_, rfl⟩) pl_X6_16 (by decide +kernel) rfl rfl dX6_init_23 ?_
  have hcl2 := k_cl_ur (k := (6, 0, 0)) (j := 1) (v := (2, 1, 0)) hcl (by decide +kernel)
  clear hcl
  have hcl := hcl2
  clear hcl2
  refine k_aload_n (pc := 26) C dX6_init_26 rfl ?_
  refine k_newO (pc := 27) (kk := (2, 2, 0)) C hcl tyX2 cl_X2 rfl (by decide +kernel) (fun _ => rfl) (fun _ => rfl) tyX2_ok df_X2 wl_X6_7 wi_X2 wn_X2 (k_vo_of (by decide +kernel)) (k_vo_of (by decide +kernel)) (by decide) (by decide) dX6_init_27 ?_
  intro ad1 ha1 C1
  rw [kSe_32] at C1 ⊢
  have hag2 := k_ag_sub (ks := kS_1) (by decide +kernel) hag ha1
  clear hag
  have hag := hag2
  clear hag2
  have hcl2 := k_cl_app (t := [(2, 2, 0)]) hcl
  rw [kSe_32] at hcl2
  clear hcl
  have hcl := hcl2
  clear hcl2
  clear C ha1
  have C := C1
  clear C1
  refine k_dup (pc := 30) C dX6_init_30 rfl ?_
  refine k_callN (pc := 31) C cI_X6_9 cn_X2_2 rfl rfl rfl (by decide) (by decide) rfl (Nat.le_of_ble_eq_true rfl) (k_vo_of (by decide +kernel)) (k_vo_of (by decide +kernel)) dX6_init_31 ?_
  intro ad1 ha1 C1
  rw [kSf_X2_2] at C1 ⊢
  have hag2 := k_ag_sub (ks := kS_1) (by decide +kernel) hag ha1
  clear hag
  have hag := hag2
  clear hag2
  clear hcl
  have hcl := qcl_X2_2
  clear C ha1
  have C := C1
  clear C1
  refine k_putFR (pc := 34) C rfl (Or.inl ⟨_, rfl⟩) pl_X6_19 (by decide +kernel) rfl rfl dX6_init_34 ?_
  have hcl2 := k_cl_ur (k := (6, 0, 0)) (j := 2) (v := (2, 2, 0)) hcl (by decide +kernel)
  clear hcl
  have hcl := hcl2
  clear hcl2
  refine k_aload_n (pc := 37) C dX6_init_37 rfl ?_
  refine k_bipush (pc := 38) (v := (nI 8)) C dX6_init_38 (by decide) ?_
  refine k_newQ (pc := 40) C hcl (12, 0, 0) (N := 8) (t0 := 4) (E := RX5) (by decide) rfl (C.2.1.2.2.2.2.2.2.2.2) rfl rfl (by decide) (by decide +kernel) (fun _ => rfl) wl_X6_22 (k_vo_of (by decide +kernel)) (k_vo_of (by decide +kernel)) (by decide) (by decide) dX6_init_40 ?_
  intro ad1 ha1 C1
  rw [kSe_47] at C1 ⊢
  have hag2 := k_ag_sub (ks := kS_1) (by decide +kernel) hag ha1
  clear hag
  have hag := hag2
  clear hag2
  have hcl2 := k_cl_app (t := [(12, 0, 0)]) hcl
  rw [kSe_47] at hcl2
  clear hcl
  have hcl := hcl2
  clear hcl2
  clear C ha1
  have C := C1
  clear C1
  refine k_putFR (pc := 43) C rfl (Or.inr ⟨_, rfl⟩) pl_X6_24 (by decide +kernel) rfl rfl dX6_init_43 ?_
  have hcl2 := k_cl_ur (k := (6, 0, 0)) (j := 4) (v := (12, 0, 0)) hcl (by decide +kernel)
  clear hcl
  have hcl := hcl2
  clear hcl2
  refine k_aload_n (pc := 46) C dX6_init_46 rfl ?_
  refine k_bipush (pc := 47) (v := (nI 8)) C dX6_init_47 (by decide) ?_
  refine k_newI (pc := 49) C hcl (8, 100, 0) (N := 8) rfl rfl rfl (by decide) (by decide +kernel) (fun _ => rfl) (k_vo_of (by decide +kernel)) (k_vo_of (by decide +kernel)) (by decide) (by decide) dX6_init_49 ?_
  intro ad1 ha1 C1
  rw [kSe_48] at C1 ⊢
  have hag2 := k_ag_sub (ks := kS_1) (by decide +kernel) hag ha1
  clear hag
  have hag := hag2
  clear hag2
  have hcl2 := k_cl_app (t := [(8, 100, 0)]) hcl
  rw [kSe_48] at hcl2
  clear hcl
  have hcl := hcl2
  clear hcl2
  clear C ha1
  have C := C1
  clear C1
  refine k_putFR (pc := 51) C rfl (Or.inr ⟨_, rfl⟩) pl_X6_28 (by decide +kernel) rfl rfl dX6_init_51 ?_
  have hcl2 := k_cl_ur (k := (6, 0, 0)) (j := 5) (v := (8, 100, 0)) hcl (by decide +kernel)
  clear hcl
  have hcl := hcl2
  clear hcl2
  refine k_aload_n (pc := 54) C dX6_init_54 rfl ?_
  refine k_newO (pc := 55) (kk := (4, 0, 0)) C hcl tyX4 cl_X4 rfl (by decide +kernel) (fun _ => rfl) (fun _ => rfl) tyX4_ok df_X4 wl_X6_32 wi_X4 wn_X4 (k_vo_of (by decide +kernel)) (k_vo_of (by decide +kernel)) (by decide) (by decide) dX6_init_55 ?_
  intro ad1 ha1 C1
  rw [kSe_49] at C1 ⊢
  have hag2 := k_ag_sub (ks := kS_1) (by decide +kernel) hag ha1
  clear hag
  have hag := hag2
  clear hag2
  have hcl2 := k_cl_app (t := [(4, 0, 0)]) hcl
  rw [kSe_49] at hcl2
  clear hcl
  have hcl := hcl2
  clear hcl2
  clear C ha1
  have C := C1
  clear C1
  refine k_dup (pc := 58) C dX6_init_58 rfl ?_
  refine k_callN (pc := 59) C cI_X6_34 cn_X4 rfl rfl rfl (by decide) (by decide) rfl (Nat.le_of_ble_eq_true rfl) (k_vo_of (by decide +kernel)) (k_vo_of (by decide +kernel)) dX6_init_59 ?_
  intro ad1 ha1 C1
  rw [kSf_X4] at C1 ⊢
  have hag2 := k_ag_sub (ks := kS_1) (by decide +kernel) hag ha1
  clear hag
  have hag := hag2
  clear hag2
  clear hcl
  have hcl := qcl_X4
  clear C ha1
  have C := C1
  clear C1
  refine k_putFR (pc := 62) C rfl (Or.inl ⟨_, rfl⟩) pl_X6_35 (by decide +kernel) rfl rfl dX6_init_62 ?_
  have hcl2 := k_cl_ur (k := (6, 0, 0)) (j := 6) (v := (4, 0, 0)) hcl (by decide +kernel)
  clear hcl
  have hcl := hcl2
  clear hcl2
  refine k_aload_n (pc := 65) C dX6_init_65 rfl ?_
  refine k_newO (pc := 66) (kk := (3, 0, 0)) C hcl tyX3 cl_X3 rfl (by decide +kernel) (fun _ => rfl) (fun _ => rfl) tyX3_ok df_X3 wl_X6_39 wi_X3 wn_X3 (k_vo_of (by decide +kernel)) (k_vo_of (by decide +kernel)) (by decide) (by decide) dX6_init_66 ?_
  intro ad1 ha1 C1
  rw [kSe_51] at C1 ⊢
  have hag2 := k_ag_sub (ks := kS_1) (by decide +kernel) hag ha1
  clear hag
  have hag := hag2
  clear hag2
  have hcl2 := k_cl_app (t := [(3, 0, 0)]) hcl
  rw [kSe_51] at hcl2
  clear hcl
  have hcl := hcl2
  clear hcl2
  clear C ha1
  have C := C1
  clear C1
  refine k_dup (pc := 69) C dX6_init_69 rfl ?_
  refine k_callN (pc := 70) C cI_X6_41 cn_X3 rfl rfl rfl (by decide) (by decide) rfl (Nat.le_of_ble_eq_true rfl) (k_vo_of (by decide +kernel)) (k_vo_of (by decide +kernel)) dX6_init_70 ?_
  intro ad1 ha1 C1
  rw [kSf_X3] at C1 ⊢
  have hag2 := k_ag_sub (ks := kS_1) (by decide +kernel) hag ha1
  clear hag
  have hag := hag2
  clear hag2
  clear hcl
  have hcl := qcl_X3
  clear C ha1
  have C := C1
  clear C1
  refine k_putFR (pc := 73) C rfl (Or.inl ⟨_, rfl⟩) pl_X6_42 (by decide +kernel) rfl rfl dX6_init_73 ?_
  have hcl2 := k_cl_ur (k := (6, 0, 0)) (j := 7) (v := (3, 0, 0)) hcl (by decide +kernel)
  clear hcl
  have hcl := hcl2
  clear hcl2
  refine k_iconst (pc := 76) (v := (nI 0)) C dX6_init_76 (by decide) ?_
  refine k_istore_1 (pc := 77) C dX6_init_77 rfl ?_
  refine k_iload_n (pc := 78) C dX6_init_78 rfl ?_
  refine k_aload_n (pc := 79) C dX6_init_79 rfl ?_
  refine k_getR (pc := 80) (r := some (12, 0, 0)) C fl_X6_24 (by decide +kernel) rfl rfl rfl dX6_init_80 ?_
  refine k_alen (pc := 83) (v := nI 8) C (by decide +kernel) (by decide) rfl dX6_init_83 ?_
  refine k_icmp_geF (pc := 84) C 106 dX6_init_84 (by decide) (by decide) ?_
  refine k_aload_n (pc := 87) C dX6_init_87 rfl ?_
  refine k_getR (pc := 88) (r := some (12, 0, 0)) C fl_X6_24 (by decide +kernel) rfl rfl rfl dX6_init_88 ?_
  refine k_iload_n (pc := 91) C dX6_init_91 rfl ?_
  refine k_newO (pc := 92) (kk := (5, 0, 0)) C hcl tyX5 cl_X5 rfl (by decide +kernel) (fun _ => rfl) (fun _ => rfl) tyX5_ok df_X5 wl_X6_22 wi_X5 wn_X5 (k_vo_of (by decide +kernel)) (k_vo_of (by decide +kernel)) (by decide) (by decide) dX6_init_92 ?_
  intro ad1 ha1 C1
  rw [kSe_53] at C1 ⊢
  have hag2 := k_ag_sub (ks := kS_1) (by decide +kernel) hag ha1
  clear hag
  have hag := hag2
  clear hag2
  have hcl2 := k_cl_app (t := [(5, 0, 0)]) hcl
  rw [kSe_53] at hcl2
  clear hcl
  have hcl := hcl2
  clear hcl2
  clear C ha1
  have C := C1
  clear C1
  refine k_dup (pc := 95) C dX6_init_95 rfl ?_
  refine k_callN (pc := 96) C cI_X6_46 cn_X5_0 rfl rfl rfl (by decide) (by decide) rfl (Nat.le_of_ble_eq_true rfl) (k_vo_of (by decide +kernel)) (k_vo_of (by decide +kernel)) dX6_init_96 ?_
  intro ad1 ha1 C1
  rw [kSf_X5_0] at C1 ⊢
  have hag2 := k_ag_sub (ks := kS_1) (by decide +kernel) hag ha1
  clear hag
  have hag := hag2
  clear hag2
  clear hcl
  have hcl := qcl_X5_0
  clear C ha1
  have C := C1
  clear C1
  refine k_aast (pc := 99) (j := 0) (t0 := 4) (q := (RX5, TX5, 4)) C (by decide +kernel) (by decide) rfl (by decide +kernel) (by decide) rfl (vp_in_nI (by decide) (by decide)) (by decide) dX6_init_99 ?_
  have hcl2 := k_cl_ur (k := (12, 0, 0)) (j := 0) (v := (5, 0, 0)) hcl (by decide +kernel)
  clear hcl
  have hcl := hcl2
  clear hcl2
  refine k_iinc_1 (pc := 100) (v := nI 1) C dX6_init_100 (by decide) rfl ?_
  refine k_goto (pc := 103) C 78 dX6_init_103 (by decide) ?_
  refine k_iload_n (pc := 78) C dX6_init_78 rfl ?_
  refine k_aload_n (pc := 79) C dX6_init_79 rfl ?_
  refine k_getR (pc := 80) (r := some (12, 0, 0)) C fl_X6_24 (by decide +kernel) rfl rfl rfl dX6_init_80 ?_
  refine k_alen (pc := 83) (v := nI 8) C (by decide +kernel) (by decide) rfl dX6_init_83 ?_
  refine k_icmp_geF (pc := 84) C 106 dX6_init_84 (by decide) (by decide) ?_
  refine k_aload_n (pc := 87) C dX6_init_87 rfl ?_
  refine k_getR (pc := 88) (r := some (12, 0, 0)) C fl_X6_24 (by decide +kernel) rfl rfl rfl dX6_init_88 ?_
  refine k_iload_n (pc := 91) C dX6_init_91 rfl ?_
  refine k_newO (pc := 92) (kk := (5, 0, 1)) C hcl tyX5 cl_X5 rfl (by decide +kernel) (fun _ => rfl) (fun _ => rfl) tyX5_ok df_X5 wl_X6_22 wi_X5 wn_X5 (k_vo_of (by decide +kernel)) (k_vo_of (by decide +kernel)) (by decide) (by decide) dX6_init_92 ?_
  intro ad1 ha1 C1
  rw [kSe_55] at C1 ⊢
  have hag2 := k_ag_sub (ks := kS_1) (by decide +kernel) hag ha1
  clear hag
  have hag := hag2
  clear hag2
  have hcl2 := k_cl_app (t := [(5, 0, 1)]) hcl
  rw [kSe_55] at hcl2
  clear hcl
  have hcl := hcl2
  clear hcl2
  clear C ha1
  have C := C1
  clear C1
  refine k_dup (pc := 95) C dX6_init_95 rfl ?_
  refine k_callN (pc := 96) C cI_X6_46 cn_X5_1 rfl rfl rfl (by decide) (by decide) rfl (Nat.le_of_ble_eq_true rfl) (k_vo_of (by decide +kernel)) (k_vo_of (by decide +kernel)) dX6_init_96 ?_
  intro ad1 ha1 C1
  rw [kSf_X5_1] at C1 ⊢
  have hag2 := k_ag_sub (ks := kS_1) (by decide +kernel) hag ha1
  clear hag
  have hag := hag2
  clear hag2
  clear hcl
  have hcl := qcl_X5_1
  clear C ha1
  have C := C1
  clear C1
  refine k_aast (pc := 99) (j := 1) (t0 := 4) (q := (RX5, TX5, 4)) C (by decide +kernel) (by decide) rfl (by decide +kernel) (by decide) rfl (vp_in_nI (by decide) (by decide)) (by decide) dX6_init_99 ?_
  have hcl2 := k_cl_ur (k := (12, 0, 0)) (j := 1) (v := (5, 0, 1)) hcl (by decide +kernel)
  clear hcl
  have hcl := hcl2
  clear hcl2
  refine k_iinc_1 (pc := 100) (v := nI 2) C dX6_init_100 (by decide) rfl ?_
  refine k_goto (pc := 103) C 78 dX6_init_103 (by decide) ?_
  refine k_iload_n (pc := 78) C dX6_init_78 rfl ?_
  refine k_aload_n (pc := 79) C dX6_init_79 rfl ?_
  refine k_getR (pc := 80) (r := some (12, 0, 0)) C fl_X6_24 (by decide +kernel) rfl rfl rfl dX6_init_80 ?_
  refine k_alen (pc := 83) (v := nI 8) C (by decide +kernel) (by decide) rfl dX6_init_83 ?_
  refine k_icmp_geF (pc := 84) C 106 dX6_init_84 (by decide) (by decide) ?_
  refine k_aload_n (pc := 87) C dX6_init_87 rfl ?_
  refine k_getR (pc := 88) (r := some (12, 0, 0)) C fl_X6_24 (by decide +kernel) rfl rfl rfl dX6_init_88 ?_
  refine k_iload_n (pc := 91) C dX6_init_91 rfl ?_
  refine k_newO (pc := 92) (kk := (5, 0, 2)) C hcl tyX5 cl_X5 rfl (by decide +kernel) (fun _ => rfl) (fun _ => rfl) tyX5_ok df_X5 wl_X6_22 wi_X5 wn_X5 (k_vo_of (by decide +kernel)) (k_vo_of (by decide +kernel)) (by decide) (by decide) dX6_init_92 ?_
  intro ad1 ha1 C1
  rw [kSe_57] at C1 ⊢
  have hag2 := k_ag_sub (ks := kS_1) (by decide +kernel) hag ha1
  clear hag
  have hag := hag2
  clear hag2
  have hcl2 := k_cl_app (t := [(5, 0, 2)]) hcl
  rw [kSe_57] at hcl2
  clear hcl
  have hcl := hcl2
  clear hcl2
  clear C ha1
  have C := C1
  clear C1
  refine k_dup (pc := 95) C dX6_init_95 rfl ?_
  refine k_callN (pc := 96) C cI_X6_46 cn_X5_2 rfl rfl rfl (by decide) (by decide) rfl (Nat.le_of_ble_eq_true rfl) (k_vo_of (by decide +kernel)) (k_vo_of (by decide +kernel)) dX6_init_96 ?_
  intro ad1 ha1 C1
  rw [kSf_X5_2] at C1 ⊢
  have hag2 := k_ag_sub (ks := kS_1) (by decide +kernel) hag ha1
  clear hag
  have hag := hag2
  clear hag2
  clear hcl
  have hcl := qcl_X5_2
  clear C ha1
  have C := C1
  clear C1
  refine k_aast (pc := 99) (j := 2) (t0 := 4) (q := (RX5, TX5, 4)) C (by decide +kernel) (by decide) rfl (by decide +kernel) (by decide) rfl (vp_in_nI (by decide) (by decide)) (by decide) dX6_init_99 ?_
  have hcl2 := k_cl_ur (k := (12, 0, 0)) (j := 2) (v := (5, 0, 2)) hcl (by decide +kernel)
  clear hcl
  have hcl := hcl2
  clear hcl2
  refine k_iinc_1 (pc := 100) (v := nI 3) C dX6_init_100 (by decide) rfl ?_
  refine k_goto (pc := 103) C 78 dX6_init_103 (by decide) ?_
  refine k_iload_n (pc := 78) C dX6_init_78 rfl ?_
  refine k_aload_n (pc := 79) C dX6_init_79 rfl ?_
  refine k_getR (pc := 80) (r := some (12, 0, 0)) C fl_X6_24 (by decide +kernel) rfl rfl rfl dX6_init_80 ?_
  refine k_alen (pc := 83) (v := nI 8) C (by decide +kernel) (by decide) rfl dX6_init_83 ?_
  refine k_icmp_geF (pc := 84) C 106 dX6_init_84 (by decide) (by decide) ?_
  refine k_aload_n (pc := 87) C dX6_init_87 rfl ?_
  refine k_getR (pc := 88) (r := some (12, 0, 0)) C fl_X6_24 (by decide +kernel) rfl rfl rfl dX6_init_88 ?_
  refine k_iload_n (pc := 91) C dX6_init_91 rfl ?_
  refine k_newO (pc := 92) (kk := (5, 0, 3)) C hcl tyX5 cl_X5 rfl (by decide +kernel) (fun _ => rfl) (fun _ => rfl) tyX5_ok df_X5 wl_X6_22 wi_X5 wn_X5 (k_vo_of (by decide +kernel)) (k_vo_of (by decide +kernel)) (by decide) (by decide) dX6_init_92 ?_
  intro ad1 ha1 C1
  rw [kSe_59] at C1 ⊢
  have hag2 := k_ag_sub (ks := kS_1) (by decide +kernel) hag ha1
  clear hag
  have hag := hag2
  clear hag2
  have hcl2 := k_cl_app (t := [(5, 0, 3)]) hcl
  rw [kSe_59] at hcl2
  clear hcl
  have hcl := hcl2
  clear hcl2
  clear C ha1
  have C := C1
  clear C1
  refine k_dup (pc := 95) C dX6_init_95 rfl ?_
  refine k_callN (pc := 96) C cI_X6_46 cn_X5_3 rfl rfl rfl (by decide) (by decide) rfl (Nat.le_of_ble_eq_true rfl) (k_vo_of (by decide +kernel)) (k_vo_of (by decide +kernel)) dX6_init_96 ?_
  intro ad1 ha1 C1
  rw [kSf_X5_3] at C1 ⊢
  have hag2 := k_ag_sub (ks := kS_1) (by decide +kernel) hag ha1
  clear hag
  have hag := hag2
  clear hag2
  clear hcl
  have hcl := qcl_X5_3
  clear C ha1
  have C := C1
  clear C1
  refine k_aast (pc := 99) (j := 3) (t0 := 4) (q := (RX5, TX5, 4)) C (by decide +kernel) (by decide) rfl (by decide +kernel) (by decide) rfl (vp_in_nI (by decide) (by decide)) (by decide) dX6_init_99 ?_
  have hcl2 := k_cl_ur (k := (12, 0, 0)) (j := 3) (v := (5, 0, 3)) hcl (by decide +kernel)
  clear hcl
  have hcl := hcl2
  clear hcl2
  refine k_iinc_1 (pc := 100) (v := nI 4) C dX6_init_100 (by decide) rfl ?_
  refine k_goto (pc := 103) C 78 dX6_init_103 (by decide) ?_
  refine k_iload_n (pc := 78) C dX6_init_78 rfl ?_
  refine k_aload_n (pc := 79) C dX6_init_79 rfl ?_
  refine k_getR (pc := 80) (r := some (12, 0, 0)) C fl_X6_24 (by decide +kernel) rfl rfl rfl dX6_init_80 ?_
  refine k_alen (pc := 83) (v := nI 8) C (by decide +kernel) (by decide) rfl dX6_init_83 ?_
  refine k_icmp_geF (pc := 84) C 106 dX6_init_84 (by decide) (by decide) ?_
  refine k_aload_n (pc := 87) C dX6_init_87 rfl ?_
  refine k_getR (pc := 88) (r := some (12, 0, 0)) C fl_X6_24 (by decide +kernel) rfl rfl rfl dX6_init_88 ?_
  refine k_iload_n (pc := 91) C dX6_init_91 rfl ?_
  refine k_newO (pc := 92) (kk := (5, 0, 4)) C hcl tyX5 cl_X5 rfl (by decide +kernel) (fun _ => rfl) (fun _ => rfl) tyX5_ok df_X5 wl_X6_22 wi_X5 wn_X5 (k_vo_of (by decide +kernel)) (k_vo_of (by decide +kernel)) (by decide) (by decide) dX6_init_92 ?_
  intro ad1 ha1 C1
  rw [kSe_61] at C1 ⊢
  have hag2 := k_ag_sub (ks := kS_1) (by decide +kernel) hag ha1
  clear hag
  have hag := hag2
  clear hag2
  have hcl2 := k_cl_app (t := [(5, 0, 4)]) hcl
  rw [kSe_61] at hcl2
  clear hcl
  have hcl := hcl2
  clear hcl2
  clear C ha1
  have C := C1
  clear C1
  refine k_dup (pc := 95) C dX6_init_95 rfl ?_
  refine k_callN (pc := 96) C cI_X6_46 cn_X5_4 rfl rfl rfl (by decide) (by decide) rfl (Nat.le_of_ble_eq_true rfl) (k_vo_of (by decide +kernel)) (k_vo_of (by decide +kernel)) dX6_init_96 ?_
  intro ad1 ha1 C1
  rw [kSf_X5_4] at C1 ⊢
  have hag2 := k_ag_sub (ks := kS_1) (by decide +kernel) hag ha1
  clear hag
  have hag := hag2
  clear hag2
  clear hcl
  have hcl := qcl_X5_4
  clear C ha1
  have C := C1
  clear C1
  refine k_aast (pc := 99) (j := 4) (t0 := 4) (q := (RX5, TX5, 4)) C (by decide +kernel) (by decide) rfl (by decide +kernel) (by decide) rfl (vp_in_nI (by decide) (by decide)) (by decide) dX6_init_99 ?_
  have hcl2 := k_cl_ur (k := (12, 0, 0)) (j := 4) (v := (5, 0, 4)) hcl (by decide +kernel)
  clear hcl
  have hcl := hcl2
  clear hcl2
  refine k_iinc_1 (pc := 100) (v := nI 5) C dX6_init_100 (by decide) rfl ?_
  refine k_goto (pc := 103) C 78 dX6_init_103 (by decide) ?_
  refine k_iload_n (pc := 78) C dX6_init_78 rfl ?_
  refine k_aload_n (pc := 79) C dX6_init_79 rfl ?_
  refine k_getR (pc := 80) (r := some (12, 0, 0)) C fl_X6_24 (by decide +kernel) rfl rfl rfl dX6_init_80 ?_
  refine k_alen (pc := 83) (v := nI 8) C (by decide +kernel) (by decide) rfl dX6_init_83 ?_
  refine k_icmp_geF (pc := 84) C 106 dX6_init_84 (by decide) (by decide) ?_
  refine k_aload_n (pc := 87) C dX6_init_87 rfl ?_
  refine k_getR (pc := 88) (r := some (12, 0, 0)) C fl_X6_24 (by decide +kernel) rfl rfl rfl dX6_init_88 ?_
  refine k_iload_n (pc := 91) C dX6_init_91 rfl ?_
  refine k_newO (pc := 92) (kk := (5, 0, 5)) C hcl tyX5 cl_X5 rfl (by decide +kernel) (fun _ => rfl) (fun _ => rfl) tyX5_ok df_X5 wl_X6_22 wi_X5 wn_X5 (k_vo_of (by decide +kernel)) (k_vo_of (by decide +kernel)) (by decide) (by decide) dX6_init_92 ?_
  intro ad1 ha1 C1
  rw [kSe_63] at C1 ⊢
  have hag2 := k_ag_sub (ks := kS_1) (by decide +kernel) hag ha1
  clear hag
  have hag := hag2
  clear hag2
  have hcl2 := k_cl_app (t := [(5, 0, 5)]) hcl
  rw [kSe_63] at hcl2
  clear hcl
  have hcl := hcl2
  clear hcl2
  clear C ha1
  have C := C1
  clear C1
  refine k_dup (pc := 95) C dX6_init_95 rfl ?_
  refine k_callN (pc := 96) C cI_X6_46 cn_X5_5 rfl rfl rfl (by decide) (by decide) rfl (Nat.le_of_ble_eq_true rfl) (k_vo_of (by decide +kernel)) (k_vo_of (by decide +kernel)) dX6_init_96 ?_
  intro ad1 ha1 C1
  rw [kSf_X5_5] at C1 ⊢
  have hag2 := k_ag_sub (ks := kS_1) (by decide +kernel) hag ha1
  clear hag
  have hag := hag2
  clear hag2
  clear hcl
  have hcl := qcl_X5_5
  clear C ha1
  have C := C1
  clear C1
  refine k_aast (pc := 99) (j := 5) (t0 := 4) (q := (RX5, TX5, 4)) C (by decide +kernel) (by decide) rfl (by decide +kernel) (by decide) rfl (vp_in_nI (by decide) (by decide)) (by decide) dX6_init_99 ?_
  have hcl2 := k_cl_ur (k := (12, 0, 0)) (j := 5) (v := (5, 0, 5)) hcl (by decide +kernel)
  clear hcl
  have hcl := hcl2
  clear hcl2
  refine k_iinc_1 (pc := 100) (v := nI 6) C dX6_init_100 (by decide) rfl ?_
  refine k_goto (pc := 103) C 78 dX6_init_103 (by decide) ?_
  refine k_iload_n (pc := 78) C dX6_init_78 rfl ?_
  refine k_aload_n (pc := 79) C dX6_init_79 rfl ?_
  refine k_getR (pc := 80) (r := some (12, 0, 0)) C fl_X6_24 (by decide +kernel) rfl rfl rfl dX6_init_80 ?_
  refine k_alen (pc := 83) (v := nI 8) C (by decide +kernel) (by decide) rfl dX6_init_83 ?_
  refine k_icmp_geF (pc := 84) C 106 dX6_init_84 (by decide) (by decide) ?_
  refine k_aload_n (pc := 87) C dX6_init_87 rfl ?_
  refine k_getR (pc := 88) (r := some (12, 0, 0)) C fl_X6_24 (by decide +kernel) rfl rfl rfl dX6_init_88 ?_
  refine k_iload_n (pc := 91) C dX6_init_91 rfl ?_
  refine k_newO (pc := 92) (kk := (5, 0, 6)) C hcl tyX5 cl_X5 rfl (by decide +kernel) (fun _ => rfl) (fun _ => rfl) tyX5_ok df_X5 wl_X6_22 wi_X5 wn_X5 (k_vo_of (by decide +kernel)) (k_vo_of (by decide +kernel)) (by decide) (by decide) dX6_init_92 ?_
  intro ad1 ha1 C1
  rw [kSe_65] at C1 ⊢
  have hag2 := k_ag_sub (ks := kS_1) (by decide +kernel) hag ha1
  clear hag
  have hag := hag2
  clear hag2
  have hcl2 := k_cl_app (t := [(5, 0, 6)]) hcl
  rw [kSe_65] at hcl2
  clear hcl
  have hcl := hcl2
  clear hcl2
  clear C ha1
  have C := C1
  clear C1
  refine k_dup (pc := 95) C dX6_init_95 rfl ?_
  refine k_callN (pc := 96) C cI_X6_46 cn_X5_6 rfl rfl rfl (by decide) (by decide) rfl (Nat.le_of_ble_eq_true rfl) (k_vo_of (by decide +kernel)) (k_vo_of (by decide +kernel)) dX6_init_96 ?_
  intro ad1 ha1 C1
  rw [kSf_X5_6] at C1 ⊢
  have hag2 := k_ag_sub (ks := kS_1) (by decide +kernel) hag ha1
  clear hag
  have hag := hag2
  clear hag2
  clear hcl
  have hcl := qcl_X5_6
  clear C ha1
  have C := C1
  clear C1
  refine k_aast (pc := 99) (j := 6) (t0 := 4) (q := (RX5, TX5, 4)) C (by decide +kernel) (by decide) rfl (by decide +kernel) (by decide) rfl (vp_in_nI (by decide) (by decide)) (by decide) dX6_init_99 ?_
  have hcl2 := k_cl_ur (k := (12, 0, 0)) (j := 6) (v := (5, 0, 6)) hcl (by decide +kernel)
  clear hcl
  have hcl := hcl2
  clear hcl2
  refine k_iinc_1 (pc := 100) (v := nI 7) C dX6_init_100 (by decide) rfl ?_
  refine k_goto (pc := 103) C 78 dX6_init_103 (by decide) ?_
  refine k_iload_n (pc := 78) C dX6_init_78 rfl ?_
  refine k_aload_n (pc := 79) C dX6_init_79 rfl ?_
  refine k_getR (pc := 80) (r := some (12, 0, 0)) C fl_X6_24 (by decide +kernel) rfl rfl rfl dX6_init_80 ?_
  refine k_alen (pc := 83) (v := nI 8) C (by decide +kernel) (by decide) rfl dX6_init_83 ?_
  refine k_icmp_geF (pc := 84) C 106 dX6_init_84 (by decide) (by decide) ?_
  refine k_aload_n (pc := 87) C dX6_init_87 rfl ?_
  refine k_getR (pc := 88) (r := some (12, 0, 0)) C fl_X6_24 (by decide +kernel) rfl rfl rfl dX6_init_88 ?_
  refine k_iload_n (pc := 91) C dX6_init_91 rfl ?_
  refine k_newO (pc := 92) (kk := (5, 0, 7)) C hcl tyX5 cl_X5 rfl (by decide +kernel) (fun _ => rfl) (fun _ => rfl) tyX5_ok df_X5 wl_X6_22 wi_X5 wn_X5 (k_vo_of (by decide +kernel)) (k_vo_of (by decide +kernel)) (by decide) (by decide) dX6_init_92 ?_
  intro ad1 ha1 C1
  rw [kSe_67] at C1 ⊢
  have hag2 := k_ag_sub (ks := kS_1) (by decide +kernel) hag ha1
  clear hag
  have hag := hag2
  clear hag2
  have hcl2 := k_cl_app (t := [(5, 0, 7)]) hcl
  rw [kSe_67] at hcl2
  clear hcl
  have hcl := hcl2
  clear hcl2
  clear C ha1
  have C := C1
  clear C1
  refine k_dup (pc := 95) C dX6_init_95 rfl ?_
  refine k_callN (pc := 96) C cI_X6_46 cn_X5_7 rfl rfl rfl (by decide) (by decide) rfl (Nat.le_of_ble_eq_true rfl) (k_vo_of (by decide +kernel)) (k_vo_of (by decide +kernel)) dX6_init_96 ?_
  intro ad1 ha1 C1
  rw [kSf_X5_7] at C1 ⊢
  have hag2 := k_ag_sub (ks := kS_1) (by decide +kernel) hag ha1
  clear hag
  have hag := hag2
  clear hag2
  clear hcl
  have hcl := qcl_X5_7
  clear C ha1
  have C := C1
  clear C1
  refine k_aast (pc := 99) (j := 7) (t0 := 4) (q := (RX5, TX5, 4)) C (by decide +kernel) (by decide) rfl (by decide +kernel) (by decide) rfl (vp_in_nI (by decide) (by decide)) (by decide) dX6_init_99 ?_
  have hcl2 := k_cl_ur (k := (12, 0, 0)) (j := 7) (v := (5, 0, 7)) hcl (by decide +kernel)
  clear hcl
  have hcl := hcl2
  clear hcl2
  refine k_iinc_1 (pc := 100) (v := nI 8) C dX6_init_100 (by decide) rfl ?_
  refine k_goto (pc := 103) C 78 dX6_init_103 (by decide) ?_
  refine k_iload_n (pc := 78) C dX6_init_78 rfl ?_
  refine k_aload_n (pc := 79) C dX6_init_79 rfl ?_
  refine k_getR (pc := 80) (r := some (12, 0, 0)) C fl_X6_24 (by decide +kernel) rfl rfl rfl dX6_init_80 ?_
  refine k_alen (pc := 83) (v := nI 8) C (by decide +kernel) (by decide) rfl dX6_init_83 ?_
  refine k_icmp_geT (pc := 84) C 106 dX6_init_84 (by decide) (by decide) ?_
  rw [← kSf_X6] at C ⊢
  exact k_vretN (pc := 106) (mc := 67) (ms := 2063) C rfl hag dX6_init_106
def kS_69 : List Ky := [(6, 0, 0), (2, 0, 0), (11, 0, 0), (10, 0, 0), (1, 0, 0), (1, 0, 1), (1, 0, 2), (1, 0, 3), (1, 0, 4), (1, 0, 5), (0, 0, 0), (0, 0, 1), (0, 0, 2), (0, 0, 3), (0, 0, 4), (0, 0, 5), (2, 1, 0), (11, 1, 0), (10, 1, 0), (1, 1, 0), (1, 1, 1), (1, 1, 2), (1, 1, 3), (1, 1, 4), (1, 1, 5), (0, 1, 0), (0, 1, 1), (0, 1, 2), (0, 1, 3), (0, 1, 4), (0, 1, 5), (2, 2, 0), (11, 2, 0), (10, 2, 0), (1, 2, 0), (1, 2, 1), (1, 2, 2), (1, 2, 3), (1, 2, 4), (1, 2, 5), (0, 2, 0), (0, 2, 1), (0, 2, 2), (0, 2, 3), (0, 2, 4), (0, 2, 5), (12, 0, 0), (8, 100, 0), (4, 0, 0), (8, 101, 0), (3, 0, 0), (8, 102, 0), (5, 0, 0), (9, 0, 0), (5, 0, 1), (9, 0, 1), (5, 0, 2), (9, 0, 2), (5, 0, 3), (9, 0, 3), (5, 0, 4), (9, 0, 4), (5, 0, 5), (9, 0, 5), (5, 0, 6), (9, 0, 6), (5, 0, 7), (9, 0, 7), (7, 0, 0)]
theorem kSe_69 : kS_68 ++ [(7, 0, 0)] = kS_69 := by decide +kernel
