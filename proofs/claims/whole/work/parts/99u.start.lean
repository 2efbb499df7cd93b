/-! the law's start: the classes, the statics, the texts -/
theorem k_tb1 {w : Cond} (i : Nat) (h : tables_1[i]? = some w) : w ∈ lw_tbl := List.mem_append_right _ (List.mem_of_getElem? h)
def k_stm (i : Nat) : Term := .string RX4 (k_tx.getD i (0, "")).1
set_option maxRecDepth 100000 in
theorem k_start {s : State} {b : Nat} (hts : ∀ w ∈ lw_tbl, w.before #[Value.ref b] s = true) (hgv : (Jvm.Cond.and given_1 narrow_1).before #[Value.ref b] s = true) : ∃ (D : va_G) (cy : Nat → ClassId) (ad : Ky → Nat), k_Fx D cy ad s.heap.size [] s s.heap ∧ ad (17, 0, 0) = b := by
  have hws : ∀ w ∈ k_WS, w.before #[Value.ref b] s = true := fun w hw => hts w (List.mem_filter.mp hw).1
  have hq := flat_of_before _ hgv
  have hA : ∀ a : Nat, a < s.heap.size → ¬ k_AB s.heap.size a := fun a h q => absurd q (Nat.not_le.mpr h)
  obtain ⟨c0, i0, K0⟩ := u_known (C := RX0) (T := TX0) (N := 12) (n := 12) hws cl_X0.2.2.2.1 (hts _ (k_tb1 108 (by decide +kernel)))
  obtain ⟨c1, i1, K1⟩ := u_known (C := RX1) (T := TX1) (N := 15) (n := 15) hws cl_X1.2.2.2.1 (hts _ (k_tb1 33 (by decide +kernel)))
  obtain ⟨c2, i2, K2⟩ := u_known (C := RX2) (T := TX2) (N := 8) (n := 8) hws cl_X2.2.2.2.1 (hts _ (k_tb1 24 (by decide +kernel)))
  obtain ⟨c3, i3, K3⟩ := u_known (C := RX3) (T := TX3) (N := 5) (n := 5) hws cl_X3.2.2.2.1 (hts _ (k_tb1 231 (by decide +kernel)))
  obtain ⟨c4, i4, K4⟩ := u_known (C := RX4) (T := TX4) (N := 4) (n := 4) hws cl_X4.2.2.2.1 (hts _ (k_tb1 210 (by decide +kernel)))
  obtain ⟨c5, i5, K5⟩ := u_known (C := RX5) (T := TX5) (N := 4) (n := 4) hws cl_X5.2.2.2.1 (hts _ (k_tb1 253 (by decide +kernel)))
  obtain ⟨c6, i6, K6⟩ := u_known (C := RX6) (T := TX6) (N := 8) (n := 8) hws cl_X6.2.2.2.1 (hts _ (k_tb1 16 (by decide +kernel)))
  obtain ⟨c7, i7, K7⟩ := u_known (C := RX7) (T := TX7) (N := 53) (n := 53) hws cl_X7.2.2.2.1 (hts _ (k_tb1 916 (by decide +kernel)))
  obtain ⟨D, hD⟩ : ∃ D : va_G, ∀ (k : Nat) (q : vw_C), vwCl[k]? = some q → u_Kn s q.1 q.2.1 q.2.2 (D.1 k) (D.2 k) := by
    refine ⟨(fun k => match k with | 0 => c0 | 1 => c1 | 2 => c2 | 3 => c3 | 4 => c4 | 5 => c5 | 6 => c6 | _ => c7, fun k => match k with | 0 => i0 | 1 => i1 | 2 => i2 | 3 => i3 | 4 => i4 | 5 => i5 | 6 => i6 | _ => i7), ?_⟩
    intro k q h
    match k, h with
    | 0, h => cases h; exact K0
    | 1, h => cases h; exact K1
    | 2, h => cases h; exact K2
    | 3, h => cases h; exact K3
    | 4, h => cases h; exact K4
    | 5, h => cases h; exact K5
    | 6, h => cases h; exact K6
    | 7, h => cases h; exact K7
    | k + 8, h => simp [vwCl] at h
  obtain ⟨a8, k8, m8, n8, g8, e8⟩ := Cond.arrayClass_spec (hws _ wa_I)
  obtain ⟨a9, k9, m9, n9, g9, e9⟩ := Cond.arrayClass_spec (hws _ wa_L)
  have w10 : (Cond.arrayOver (.object RX0)).before #[Value.ref b] s = true := hts _ (k_tb1 32 (by decide +kernel))
  have w11 : (Cond.arrayOver (.object RX1)).before #[Value.ref b] s = true := hts _ (k_tb1 30 (by decide +kernel))
  have w12 : (Cond.arrayOver (.object RX5)).before #[Value.ref b] s = true := hts _ (k_tb1 208 (by decide +kernel))
  obtain ⟨m10, a10, k10, h10, -, g10, e10, n10⟩ := Cond.arrayOver_spec w10
  obtain ⟨m11, a11, k11, h11, -, g11, e11, n11⟩ := Cond.arrayOver_spec w11
  obtain ⟨m12, a12, k12, h12, -, g12, e12, n12⟩ := Cond.arrayOver_spec w12
  obtain ⟨cy, hcy⟩ : ∃ cy : Nat → ClassId, cy 8 = a8 ∧ cy 9 = a9 ∧ cy 10 = a10 ∧ cy 11 = a11 ∧ cy 12 = a12 := ⟨fun k => match k with | 8 => a8 | 9 => a9 | 10 => a10 | 11 => a11 | _ => a12, rfl, rfl, rfl, rfl, rfl⟩
  have hK : va_K D vwCl (k_TY cy) s := by
    refine ⟨hD, fun k q h => ?_⟩
    obtain ⟨y8, y9, y10, y11, y12⟩ := hcy
    unfold k_TY at h
    match k, h with
    | 0, h => cases h; rw [y8]; exact ⟨fun n z => ⟨(fun k h => by cases h), k8, g8, m8, e8⟩, n8⟩
    | 1, h => cases h; rw [y9]; exact ⟨fun n z => ⟨(fun k h => by cases h), k9, g9, m9, e9⟩, n9⟩
    | 2, h => cases h; rw [y10]; exact ⟨fun n z => ⟨(fun k h => by cases h), k10, g10, m10, e10⟩, k10, m10, g10, e10, h10, n10⟩
    | 3, h => cases h; rw [y11]; exact ⟨fun n z => ⟨(fun k h => by cases h), k11, g11, m11, e11⟩, k11, m11, g11, e11, h11, n11⟩
    | 4, h => cases h; rw [y12]; exact ⟨fun n z => ⟨(fun k h => by cases h), k12, g12, m12, e12⟩, k12, m12, g12, e12, h12, n12⟩
    | k + 5, h => simp at h
  obtain ⟨tK, eK, TK⟩ := va_Tof (args := #[Value.ref b]) (s := s) (tm := .static "BeggarsChoose" "KIND_ABOVE" "[I") (ty := .int) (N := 7) (f := fun j => .int (k_KA j)) (A := k_AB s.heap.size) (by decide) (hq _ (by decide +kernel)) (va_eqt (hq (.eq (.length (.static "BeggarsChoose" "KIND_ABOVE" "[I")) (.int 7)) (by decide +kernel))) (fun j hj => by
    rcases (show j = 0 ∨ j = 1 ∨ j = 2 ∨ j = 3 ∨ j = 4 ∨ j = 5 ∨ j = 6 by omega) with rfl | rfl | rfl | rfl | rfl | rfl | rfl
    · exact va_eqt (hq (.eq (.elem (.static "BeggarsChoose" "KIND_ABOVE" "[I") (.int 0)) (.int (k_KA 0))) (by decide +kernel))
    · exact va_eqt (hq (.eq (.elem (.static "BeggarsChoose" "KIND_ABOVE" "[I") (.int 1)) (.int (k_KA 1))) (by decide +kernel))
    · exact va_eqt (hq (.eq (.elem (.static "BeggarsChoose" "KIND_ABOVE" "[I") (.int 2)) (.int (k_KA 2))) (by decide +kernel))
    · exact va_eqt (hq (.eq (.elem (.static "BeggarsChoose" "KIND_ABOVE" "[I") (.int 3)) (.int (k_KA 3))) (by decide +kernel))
    · exact va_eqt (hq (.eq (.elem (.static "BeggarsChoose" "KIND_ABOVE" "[I") (.int 4)) (.int (k_KA 4))) (by decide +kernel))
    · exact va_eqt (hq (.eq (.elem (.static "BeggarsChoose" "KIND_ABOVE" "[I") (.int 5)) (.int (k_KA 5))) (by decide +kernel))
    · exact va_eqt (hq (.eq (.elem (.static "BeggarsChoose" "KIND_ABOVE" "[I") (.int 6)) (.int (k_KA 6))) (by decide +kernel))) hA
  obtain ⟨tB, eB, TB⟩ := va_Tof (args := #[Value.ref b]) (s := s) (tm := .static "BeggarsChoose" "BODIES" "[I") (ty := .int) (N := 21) (f := fun j => .int (k_BO j)) (A := k_AB s.heap.size) (by decide) (hq _ (by decide +kernel)) (va_eqt (hq (.eq (.length (.static "BeggarsChoose" "BODIES" "[I")) (.int 21)) (by decide +kernel))) (fun j hj => by
    rcases (show j = 0 ∨ j = 1 ∨ j = 2 ∨ j = 3 ∨ j = 4 ∨ j = 5 ∨ j = 6 ∨ j = 7 ∨ j = 8 ∨ j = 9 ∨ j = 10 ∨ j = 11 ∨ j = 12 ∨ j = 13 ∨ j = 14 ∨ j = 15 ∨ j = 16 ∨ j = 17 ∨ j = 18 ∨ j = 19 ∨ j = 20 by omega) with rfl | rfl | rfl | rfl | rfl | rfl | rfl | rfl | rfl | rfl | rfl | rfl | rfl | rfl | rfl | rfl | rfl | rfl | rfl | rfl | rfl
    · exact va_eqt (hq (.eq (.elem (.static "BeggarsChoose" "BODIES" "[I") (.int 0)) (.int (k_BO 0))) (by decide +kernel))
    · exact va_eqt (hq (.eq (.elem (.static "BeggarsChoose" "BODIES" "[I") (.int 1)) (.int (k_BO 1))) (by decide +kernel))
    · exact va_eqt (hq (.eq (.elem (.static "BeggarsChoose" "BODIES" "[I") (.int 2)) (.int (k_BO 2))) (by decide +kernel))
    · exact va_eqt (hq (.eq (.elem (.static "BeggarsChoose" "BODIES" "[I") (.int 3)) (.int (k_BO 3))) (by decide +kernel))
    · exact va_eqt (hq (.eq (.elem (.static "BeggarsChoose" "BODIES" "[I") (.int 4)) (.int (k_BO 4))) (by decide +kernel))
    · exact va_eqt (hq (.eq (.elem (.static "BeggarsChoose" "BODIES" "[I") (.int 5)) (.int (k_BO 5))) (by decide +kernel))
    · exact va_eqt (hq (.eq (.elem (.static "BeggarsChoose" "BODIES" "[I") (.int 6)) (.int (k_BO 6))) (by decide +kernel))
    · exact va_eqt (hq (.eq (.elem (.static "BeggarsChoose" "BODIES" "[I") (.int 7)) (.int (k_BO 7))) (by decide +kernel))
    · exact va_eqt (hq (.eq (.elem (.static "BeggarsChoose" "BODIES" "[I") (.int 8)) (.int (k_BO 8))) (by decide +kernel))
    · exact va_eqt (hq (.eq (.elem (.static "BeggarsChoose" "BODIES" "[I") (.int 9)) (.int (k_BO 9))) (by decide +kernel))
    · exact va_eqt (hq (.eq (.elem (.static "BeggarsChoose" "BODIES" "[I") (.int 10)) (.int (k_BO 10))) (by decide +kernel))
    · exact va_eqt (hq (.eq (.elem (.static "BeggarsChoose" "BODIES" "[I") (.int 11)) (.int (k_BO 11))) (by decide +kernel))
    · exact va_eqt (hq (.eq (.elem (.static "BeggarsChoose" "BODIES" "[I") (.int 12)) (.int (k_BO 12))) (by decide +kernel))
    · exact va_eqt (hq (.eq (.elem (.static "BeggarsChoose" "BODIES" "[I") (.int 13)) (.int (k_BO 13))) (by decide +kernel))
    · exact va_eqt (hq (.eq (.elem (.static "BeggarsChoose" "BODIES" "[I") (.int 14)) (.int (k_BO 14))) (by decide +kernel))
    · exact va_eqt (hq (.eq (.elem (.static "BeggarsChoose" "BODIES" "[I") (.int 15)) (.int (k_BO 15))) (by decide +kernel))
    · exact va_eqt (hq (.eq (.elem (.static "BeggarsChoose" "BODIES" "[I") (.int 16)) (.int (k_BO 16))) (by decide +kernel))
    · exact va_eqt (hq (.eq (.elem (.static "BeggarsChoose" "BODIES" "[I") (.int 17)) (.int (k_BO 17))) (by decide +kernel))
    · exact va_eqt (hq (.eq (.elem (.static "BeggarsChoose" "BODIES" "[I") (.int 18)) (.int (k_BO 18))) (by decide +kernel))
    · exact va_eqt (hq (.eq (.elem (.static "BeggarsChoose" "BODIES" "[I") (.int 19)) (.int (k_BO 19))) (by decide +kernel))
    · exact va_eqt (hq (.eq (.elem (.static "BeggarsChoose" "BODIES" "[I") (.int 20)) (.int (k_BO 20))) (by decide +kernel))) hA
  have ZK := va_Zref (A := k_AB s.heap.size) (hts _ (k_tb1 404 (by decide +kernel))) (hts (.initialized "BeggarsChoose") (k_tb1 1 (by decide +kernel))) eK hA
  have ZB := va_Zref (A := k_AB s.heap.size) (hts _ (k_tb1 868 (by decide +kernel))) (hts (.initialized "BeggarsChoose") (k_tb1 1 (by decide +kernel))) eB hA
  have ZC := va_Zof (A := k_AB s.heap.size) (hts (.laysStatic "java/lang/String" "COMPACT_STRINGS" "Z") (k_tb1 529 (by decide +kernel))) (hts (.initialized "java/lang/String") (k_tb1 11 (by decide +kernel))) (va_eqi (z := 1) (hq _ (by decide +kernel))) hA
  have ZS := va_Zqof (A := k_AB s.heap.size) (hts (.laysStatic "jdk/internal/util/Preconditions" "SIOOBE_FORMATTER" "Ljava/util/function/BiFunction;") (k_tb1 549 (by decide +kernel))) (hts (.initialized "jdk/internal/util/Preconditions") (k_tb1 13 (by decide +kernel))) (hq _ (by decide +kernel)) hA
  obtain ⟨adK, adV, SS, ES⟩ := vk_Sof (args := #[Value.ref b]) (s := s) (N := 6) (tm := k_stm) (len := k_len) (byt := k_byt) (A := k_AB s.heap.size) (by decide +kernel) (fun i hi => by
    rcases (show i = 0 ∨ i = 1 ∨ i = 2 ∨ i = 3 ∨ i = 4 ∨ i = 5 by omega) with rfl | rfl | rfl | rfl | rfl | rfl
    · exact hq _ (by decide +kernel)
    · exact hq _ (by decide +kernel)
    · exact hq _ (by decide +kernel)
    · exact hq _ (by decide +kernel)
    · exact hq _ (by decide +kernel)
    · exact hq _ (by decide +kernel)) (fun i hi => by
    rcases (show i = 0 ∨ i = 1 ∨ i = 2 ∨ i = 3 ∨ i = 4 ∨ i = 5 by omega) with rfl | rfl | rfl | rfl | rfl | rfl
    · exact hq _ (by decide +kernel)
    · exact hq _ (by decide +kernel)
    · exact hq _ (by decide +kernel)
    · exact hq _ (by decide +kernel)
    · exact hq _ (by decide +kernel)
    · exact hq _ (by decide +kernel)) (fun i hi => by
    rcases (show i = 0 ∨ i = 1 ∨ i = 2 ∨ i = 3 ∨ i = 4 ∨ i = 5 by omega) with rfl | rfl | rfl | rfl | rfl | rfl
    · exact hq _ (by decide +kernel)
    · exact hq _ (by decide +kernel)
    · exact hq _ (by decide +kernel)
    · exact hq _ (by decide +kernel)
    · exact hq _ (by decide +kernel)
    · exact hq _ (by decide +kernel)) (fun i hi => by
    rcases (show i = 0 ∨ i = 1 ∨ i = 2 ∨ i = 3 ∨ i = 4 ∨ i = 5 by omega) with rfl | rfl | rfl | rfl | rfl | rfl
    · exact hq _ (by decide +kernel)
    · exact hq _ (by decide +kernel)
    · exact hq _ (by decide +kernel)
    · exact hq _ (by decide +kernel)
    · exact hq _ (by decide +kernel)
    · exact hq _ (by decide +kernel)) (fun i hi j hj => by
    rcases (show i = 0 ∨ i = 1 ∨ i = 2 ∨ i = 3 ∨ i = 4 ∨ i = 5 by omega) with rfl | rfl | rfl | rfl | rfl | rfl
    · have hj : j < 7 := hj
      rcases (show j = 0 ∨ j = 1 ∨ j = 2 ∨ j = 3 ∨ j = 4 ∨ j = 5 ∨ j = 6 by omega) with rfl | rfl | rfl | rfl | rfl | rfl | rfl
      · exact hq _ (by decide +kernel)
      · exact hq _ (by decide +kernel)
      · exact hq _ (by decide +kernel)
      · exact hq _ (by decide +kernel)
      · exact hq _ (by decide +kernel)
      · exact hq _ (by decide +kernel)
      · exact hq _ (by decide +kernel)
    · have hj : j < 6 := hj
      rcases (show j = 0 ∨ j = 1 ∨ j = 2 ∨ j = 3 ∨ j = 4 ∨ j = 5 by omega) with rfl | rfl | rfl | rfl | rfl | rfl
      · exact hq _ (by decide +kernel)
      · exact hq _ (by decide +kernel)
      · exact hq _ (by decide +kernel)
      · exact hq _ (by decide +kernel)
      · exact hq _ (by decide +kernel)
      · exact hq _ (by decide +kernel)
    · have hj : j < 4 := hj
      rcases (show j = 0 ∨ j = 1 ∨ j = 2 ∨ j = 3 by omega) with rfl | rfl | rfl | rfl
      · exact hq _ (by decide +kernel)
      · exact hq _ (by decide +kernel)
      · exact hq _ (by decide +kernel)
      · exact hq _ (by decide +kernel)
    · have hj : j < 5 := hj
      rcases (show j = 0 ∨ j = 1 ∨ j = 2 ∨ j = 3 ∨ j = 4 by omega) with rfl | rfl | rfl | rfl | rfl
      · exact hq _ (by decide +kernel)
      · exact hq _ (by decide +kernel)
      · exact hq _ (by decide +kernel)
      · exact hq _ (by decide +kernel)
      · exact hq _ (by decide +kernel)
    · have hj : j < 5 := hj
      rcases (show j = 0 ∨ j = 1 ∨ j = 2 ∨ j = 3 ∨ j = 4 by omega) with rfl | rfl | rfl | rfl | rfl
      · exact hq _ (by decide +kernel)
      · exact hq _ (by decide +kernel)
      · exact hq _ (by decide +kernel)
      · exact hq _ (by decide +kernel)
      · exact hq _ (by decide +kernel)
    · have hj : j < 4 := hj
      rcases (show j = 0 ∨ j = 1 ∨ j = 2 ∨ j = 3 by omega) with rfl | rfl | rfl | rfl
      · exact hq _ (by decide +kernel)
      · exact hq _ (by decide +kernel)
      · exact hq _ (by decide +kernel)
      · exact hq _ (by decide +kernel)) (fun i j hi hj hne => by
    rcases (show i = 0 ∨ i = 1 ∨ i = 2 ∨ i = 3 ∨ i = 4 ∨ i = 5 by omega) with rfl | rfl | rfl | rfl | rfl | rfl <;> rcases (show j = 0 ∨ j = 1 ∨ j = 2 ∨ j = 3 ∨ j = 4 ∨ j = 5 by omega) with rfl | rfl | rfl | rfl | rfl | rfl <;> first | exact absurd rfl hne | exact Or.inl (hq _ (by decide +kernel)) | exact Or.inr (hq _ (by decide +kernel))) hA
  obtain ⟨t16, ZS2⟩ : ∃ t : Nat, va_Z "jdk/internal/util/Preconditions" "SIOOBE_FORMATTER" "Ljava/util/function/BiFunction;" .null (k_AB s.heap.size) s s.heap ∨ va_Z "jdk/internal/util/Preconditions" "SIOOBE_FORMATTER" "Ljava/util/function/BiFunction;" (.ref t) (k_AB s.heap.size) s s.heap := by
    rcases ZS with h | ⟨t, h⟩
    · exact ⟨0, Or.inl h⟩
    · exact ⟨t, Or.inr h⟩
  refine ⟨D, cy, fun k => if k.1 = 13 then (if k.2.1 = 0 then tK else tB) else if k.1 = 14 then adK k.2.1 else if k.1 = 15 then adV k.2.1 else if k.1 = 16 then t16 else b, ⟨Nat.le_refl _, hK, fun w hw => ?_, ⟨fun i j k k' h => by simp at h, fun k h => by simp at h⟩, ⟨ZK, TK, ZB, TB, SS, ZC, ZS2⟩, fun w q h => ?_, va_AO.of w10, va_AO.of w11, va_AO.of w12⟩, rfl⟩
  · have h2 := (List.mem_filter.mp hw).2
    have h3 : w.before #[Value.ref b] s = true := hts w (List.mem_append_right _ (List.mem_filter.mp hw).1)
    cases w <;> first | cases h2 | skip
    all_goals exact va_Nw.of rfl h3
  · match w, h with
    | 0, h => cases h; exact vk_R.of (hts (.stringRef RX4 123 "citizen") (k_tb1 510 (by decide +kernel))) (ES 0 (by decide))
    | 1, h => cases h; exact vk_R.of (hts (.stringRef RX4 125 "beggar") (k_tb1 511 (by decide +kernel))) (ES 1 (by decide))
    | 2, h => cases h; exact vk_R.of (hts (.stringRef RX4 127 "wear") (k_tb1 512 (by decide +kernel))) (ES 2 (by decide))
    | 3, h => cases h; exact vk_R.of (hts (.stringRef RX4 128 "hides") (k_tb1 513 (by decide +kernel))) (ES 3 (by decide))
    | 4, h => cases h; exact vk_R.of (hts (.stringRef RX4 130 "comes") (k_tb1 514 (by decide +kernel))) (ES 4 (by decide))
    | 5, h => cases h; exact vk_R.of (hts (.stringRef RX4 132 "post") (k_tb1 515 (by decide +kernel))) (ES 5 (by decide))
    | w + 6, h => simp [k_tx] at h
