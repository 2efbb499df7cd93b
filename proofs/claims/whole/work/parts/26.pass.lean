/-! City: the morning -/
def f_X2_chosenBy (mi : MemI) (g : Nat) (i2 : Nat) : Nat :=
  if (mi (0, g, i2) 4) = 0 then if f_X2_greatestFace mi g 6 < 6 then (f_X2_greatestFace mi g 6)
    else 6
  else if (mi (0, g, i2) 4) = 1 then if f_X2_leastFace mi g 6 < 6 then (f_X2_leastFace mi g 6)
      else 6
    else if (mi (0, g, i2) 4) = 2 then if f_X2_fewestPicked mi g 6 < 6 then (f_X2_fewestPicked mi g 6)
        else 6
      else if (mi (0, g, i2) 4) = 3 then if f_X2_openAt mi g (f_X2_blindPlace mi g i2 (nI <| f_X2_countOpen mi g 6)) < 6 then (f_X2_openAt mi g (f_X2_blindPlace mi g i2 (nI <| f_X2_countOpen mi g 6)))
          else 6
        else if (mi (0, g, i2) 4) = 4 then if (f_X2_canStay mi g i2) = 0 then if f_X2_greatestFace mi g 6 < 6 then (f_X2_greatestFace mi g 6)
              else 6
            else if f_X2_citizenAt mi g (mi (0, g, i2) 5) < 6 then (f_X2_citizenAt mi g (mi (0, g, i2) 5))
              else 6
          else 6
set_option maxRecDepth 100000 in
set_option maxHeartbeats 4000000 in
theorem ct_X2_chosenBy_s {mi : MemI} {ml : MemL} {g : Nat} {i2 : Nat} (hg : g < 3) (hi2 : i2 < 6) (h : (f_X2_chosenBy mi g i2) < 6) : k_Ct k_KS k_R0 Mt_X2_chosenBy 2 [vR (2, g, 0), vR (0, g, i2)] mi ml (k_rt (some (vR (1, g, (f_X2_chosenBy mi g i2)))) mi ml) := by
  refine k_ofV (L0 := [vR (2, g, 0), vR (0, g, i2)]) (by decide +kernel) (Nat.le_of_ble_eq_true rfl) rfl rfl ?_
  intro p l e s m args below meth c D cy ad bs C
  refine k_aload_n (pc := 0) C dX2_chosenBy_0 rfl ?_
  refine k_getI (pc := 1) C fl_X2_95 (k_in0 hg hi2) rfl rfl dX2_chosenBy_1 ?_
  by_cases c4_0 : (mi (0, g, i2) 4) = 0
  · skip
    refine k_tabIn (pc := 4) (v := 0) C 40 dX2_chosenBy_4 c4_0 (by decide) (by decide) rfl (by decide) ?_
    refine k_aload_n (pc := 40) C dX2_chosenBy_40 rfl ?_
    by_cases c41 : f_X2_greatestFace mi g 6 < 6
    · skip
      refine k_call0 (pc := 41) C cv_X2_98 (ct_X2_greatestFace_s hg c41) (k_in2 hg) rfl (by decide) rfl (Nat.le_of_ble_eq_true rfl) dX2_chosenBy_41 ?_
      exact k_aret (pc := 44) (x := some (1, g, (f_X2_greatestFace mi g 6))) C rfl (Or.inl ⟨_, rfl⟩) (k_fR (by unfold f_X2_chosenBy; rw [if_pos c4_0, if_pos c41])) dX2_chosenBy_44
    · skip
      refine k_call0 (pc := 41) C cv_X2_98 (ct_X2_greatestFace_n hg c41) (k_in2 hg) rfl (by decide) rfl (Nat.le_of_ble_eq_true rfl) dX2_chosenBy_41 ?_
      exact absurd h (by unfold f_X2_chosenBy; rw [if_pos c4_0, if_neg c41]; decide)
  by_cases c4_1 : (mi (0, g, i2) 4) = 1
  · skip
    refine k_tabIn (pc := 4) (v := 1) C 45 dX2_chosenBy_4 c4_1 (by decide) (by decide) rfl (by decide) ?_
    refine k_aload_n (pc := 45) C dX2_chosenBy_45 rfl ?_
    by_cases c46 : f_X2_leastFace mi g 6 < 6
    · skip
      refine k_call0 (pc := 46) C cv_X2_102 (ct_X2_leastFace_s hg c46) (k_in2 hg) rfl (by decide) rfl (Nat.le_of_ble_eq_true rfl) dX2_chosenBy_46 ?_
      exact k_aret (pc := 49) (x := some (1, g, (f_X2_leastFace mi g 6))) C rfl (Or.inl ⟨_, rfl⟩) (k_fR (by unfold f_X2_chosenBy; rw [if_neg c4_0, if_pos c4_1, if_pos c46])) dX2_chosenBy_49
    · skip
      refine k_call0 (pc := 46) C cv_X2_102 (ct_X2_leastFace_n hg c46) (k_in2 hg) rfl (by decide) rfl (Nat.le_of_ble_eq_true rfl) dX2_chosenBy_46 ?_
      exact absurd h (by unfold f_X2_chosenBy; rw [if_neg c4_0, if_pos c4_1, if_neg c46]; decide)
  by_cases c4_2 : (mi (0, g, i2) 4) = 2
  · skip
    refine k_tabIn (pc := 4) (v := 2) C 50 dX2_chosenBy_4 c4_2 (by decide) (by decide) rfl (by decide) ?_
    refine k_aload_n (pc := 50) C dX2_chosenBy_50 rfl ?_
    by_cases c51 : f_X2_fewestPicked mi g 6 < 6
    · skip
      refine k_call0 (pc := 51) C cv_X2_105 (ct_X2_fewestPicked_s hg c51) (k_in2 hg) rfl (by decide) rfl (Nat.le_of_ble_eq_true rfl) dX2_chosenBy_51 ?_
      exact k_aret (pc := 54) (x := some (1, g, (f_X2_fewestPicked mi g 6))) C rfl (Or.inl ⟨_, rfl⟩) (k_fR (by unfold f_X2_chosenBy; rw [if_neg c4_0, if_neg c4_1, if_pos c4_2, if_pos c51])) dX2_chosenBy_54
    · skip
      refine k_call0 (pc := 51) C cv_X2_105 (ct_X2_fewestPicked_n hg c51) (k_in2 hg) rfl (by decide) rfl (Nat.le_of_ble_eq_true rfl) dX2_chosenBy_51 ?_
      exact absurd h (by unfold f_X2_chosenBy; rw [if_neg c4_0, if_neg c4_1, if_pos c4_2, if_neg c51]; decide)
  by_cases c4_3 : (mi (0, g, i2) 4) = 3
  · skip
    refine k_tabIn (pc := 4) (v := 3) C 55 dX2_chosenBy_4 c4_3 (by decide) (by decide) rfl (by decide) ?_
    refine k_aload_n (pc := 55) C dX2_chosenBy_55 rfl ?_
    refine k_aload_n (pc := 56) C dX2_chosenBy_56 rfl ?_
    refine k_aload_n (pc := 57) C dX2_chosenBy_57 rfl ?_
    refine k_aload_n (pc := 58) C dX2_chosenBy_58 rfl ?_
    refine k_call0 (pc := 59) C cv_X2_58 (ct_X2_countOpen hg) (k_in2 hg) rfl (by decide) rfl (Nat.le_of_ble_eq_true rfl) dX2_chosenBy_59 ?_
    refine k_call2 (pc := 62) C cv_X2_108 (ct_X2_blindPlace hg hi2) (k_in2 hg) rfl (by decide) rfl (Nat.le_of_ble_eq_true rfl) dX2_chosenBy_62 ?_
    by_cases c65 : f_X2_openAt mi g (f_X2_blindPlace mi g i2 (nI <| f_X2_countOpen mi g 6)) < 6
    · skip
      refine k_call1 (pc := 65) C cv_X2_112 (ct_X2_openAt_s hg c65) (k_in2 hg) rfl (by decide) rfl (Nat.le_of_ble_eq_true rfl) dX2_chosenBy_65 ?_
      exact k_aret (pc := 68) (x := some (1, g, (f_X2_openAt mi g (f_X2_blindPlace mi g i2 (nI <| f_X2_countOpen mi g 6))))) C rfl (Or.inl ⟨_, rfl⟩) (k_fR (by unfold f_X2_chosenBy; rw [if_neg c4_0, if_neg c4_1, if_neg c4_2, if_pos c4_3, if_pos c65])) dX2_chosenBy_68
    · skip
      refine k_call1 (pc := 65) C cv_X2_112 (ct_X2_openAt_n hg c65) (k_in2 hg) rfl (by decide) rfl (Nat.le_of_ble_eq_true rfl) dX2_chosenBy_65 ?_
      exact absurd h (by unfold f_X2_chosenBy; rw [if_neg c4_0, if_neg c4_1, if_neg c4_2, if_pos c4_3, if_neg c65]; decide)
  by_cases c4_4 : (mi (0, g, i2) 4) = 4
  · skip
    refine k_tabIn (pc := 4) (v := 4) C 69 dX2_chosenBy_4 c4_4 (by decide) (by decide) rfl (by decide) ?_
    refine k_aload_n (pc := 69) C dX2_chosenBy_69 rfl ?_
    refine k_aload_n (pc := 70) C dX2_chosenBy_70 rfl ?_
    refine k_call1 (pc := 71) C cv_X2_116 (ct_X2_canStay hg hi2) (k_in2 hg) rfl (by decide) rfl (Nat.le_of_ble_eq_true rfl) dX2_chosenBy_71 ?_
    refine k_if_eq (pc := 74) C 88 dX2_chosenBy_74 (by decide) (fun c74 => ?_) (fun c74 => ?_)
    · skip
      refine k_aload_n (pc := 88) C dX2_chosenBy_88 rfl ?_
      by_cases c89 : f_X2_greatestFace mi g 6 < 6
      · skip
        refine k_call0 (pc := 89) C cv_X2_98 (ct_X2_greatestFace_s hg c89) (k_in2 hg) rfl (by decide) rfl (Nat.le_of_ble_eq_true rfl) dX2_chosenBy_89 ?_
        exact k_aret (pc := 92) (x := some (1, g, (f_X2_greatestFace mi g 6))) C rfl (Or.inl ⟨_, rfl⟩) (k_fR (by unfold f_X2_chosenBy; rw [if_neg c4_0, if_neg c4_1, if_neg c4_2, if_neg c4_3, if_pos c4_4, if_pos c74, if_pos c89])) dX2_chosenBy_92
      · skip
        refine k_call0 (pc := 89) C cv_X2_98 (ct_X2_greatestFace_n hg c89) (k_in2 hg) rfl (by decide) rfl (Nat.le_of_ble_eq_true rfl) dX2_chosenBy_89 ?_
        exact absurd h (by unfold f_X2_chosenBy; rw [if_neg c4_0, if_neg c4_1, if_neg c4_2, if_neg c4_3, if_pos c4_4, if_pos c74, if_neg c89]; decide)
    · skip
      refine k_aload_n (pc := 77) C dX2_chosenBy_77 rfl ?_
      refine k_aload_n (pc := 78) C dX2_chosenBy_78 rfl ?_
      refine k_getI (pc := 79) C fl_X2_120 (k_in0 hg hi2) rfl rfl dX2_chosenBy_79 ?_
      by_cases c82 : f_X2_citizenAt mi g (mi (0, g, i2) 5) < 6
      · skip
        refine k_call1 (pc := 82) C cv_X2_123 (ct_X2_citizenAt_s hg c82) (k_in2 hg) rfl (by decide) rfl (Nat.le_of_ble_eq_true rfl) dX2_chosenBy_82 ?_
        refine k_goto (pc := 85) C 92 dX2_chosenBy_85 (by decide) ?_
        exact k_aret (pc := 92) (x := some (1, g, (f_X2_citizenAt mi g (mi (0, g, i2) 5)))) C rfl (Or.inl ⟨_, rfl⟩) (k_fR (by unfold f_X2_chosenBy; rw [if_neg c4_0, if_neg c4_1, if_neg c4_2, if_neg c4_3, if_pos c4_4, if_neg c74, if_pos c82])) dX2_chosenBy_92
      · skip
        refine k_call1 (pc := 82) C cv_X2_123 (ct_X2_citizenAt_n hg c82) (k_in2 hg) rfl (by decide) rfl (Nat.le_of_ble_eq_true rfl) dX2_chosenBy_82 ?_
        refine k_goto (pc := 85) C 92 dX2_chosenBy_85 (by decide) ?_
        exact absurd h (by unfold f_X2_chosenBy; rw [if_neg c4_0, if_neg c4_1, if_neg c4_2, if_neg c4_3, if_pos c4_4, if_neg c74, if_neg c82]; decide)
  refine k_tabOut (pc := 4) C 93 dX2_chosenBy_4 (k_out 0 4 (fun v h1 h2 => by rcases (show v = 0 ∨ v = 1 ∨ v = 2 ∨ v = 3 ∨ v = 4 by omega) with rfl | rfl | rfl | rfl | rfl <;> first | exact c4_0 | exact c4_1 | exact c4_2 | exact c4_3 | exact c4_4)) (by decide) ?_
  refine k_null (pc := 93) C dX2_chosenBy_93 ?_
  exact absurd h (by unfold f_X2_chosenBy; rw [if_neg c4_0, if_neg c4_1, if_neg c4_2, if_neg c4_3, if_neg c4_4]; decide)
set_option maxRecDepth 100000 in
set_option maxHeartbeats 4000000 in
theorem ct_X2_chosenBy_n {mi : MemI} {ml : MemL} {g : Nat} {i2 : Nat} (hg : g < 3) (hi2 : i2 < 6) (h : ¬ (f_X2_chosenBy mi g i2) < 6) : k_Ct k_KS k_R0 Mt_X2_chosenBy 2 [vR (2, g, 0), vR (0, g, i2)] mi ml (k_rt (some vN) mi ml) := by
  refine k_ofV (L0 := [vR (2, g, 0), vR (0, g, i2)]) (by decide +kernel) (Nat.le_of_ble_eq_true rfl) rfl rfl ?_
  intro p l e s m args below meth c D cy ad bs C
  refine k_aload_n (pc := 0) C dX2_chosenBy_0 rfl ?_
  refine k_getI (pc := 1) C fl_X2_95 (k_in0 hg hi2) rfl rfl dX2_chosenBy_1 ?_
  by_cases c4_0 : (mi (0, g, i2) 4) = 0
  · skip
    refine k_tabIn (pc := 4) (v := 0) C 40 dX2_chosenBy_4 c4_0 (by decide) (by decide) rfl (by decide) ?_
    refine k_aload_n (pc := 40) C dX2_chosenBy_40 rfl ?_
    by_cases c41 : f_X2_greatestFace mi g 6 < 6
    · skip
      refine k_call0 (pc := 41) C cv_X2_98 (ct_X2_greatestFace_s hg c41) (k_in2 hg) rfl (by decide) rfl (Nat.le_of_ble_eq_true rfl) dX2_chosenBy_41 ?_
      exact absurd (by unfold f_X2_chosenBy; rw [if_pos c4_0, if_pos c41]; exact c41) h
    · skip
      refine k_call0 (pc := 41) C cv_X2_98 (ct_X2_greatestFace_n hg c41) (k_in2 hg) rfl (by decide) rfl (Nat.le_of_ble_eq_true rfl) dX2_chosenBy_41 ?_
      exact k_aret (pc := 44) (x := none) C rfl (Or.inl ⟨_, rfl⟩) k_rt_rf dX2_chosenBy_44
  by_cases c4_1 : (mi (0, g, i2) 4) = 1
  · skip
    refine k_tabIn (pc := 4) (v := 1) C 45 dX2_chosenBy_4 c4_1 (by decide) (by decide) rfl (by decide) ?_
    refine k_aload_n (pc := 45) C dX2_chosenBy_45 rfl ?_
    by_cases c46 : f_X2_leastFace mi g 6 < 6
    · skip
      refine k_call0 (pc := 46) C cv_X2_102 (ct_X2_leastFace_s hg c46) (k_in2 hg) rfl (by decide) rfl (Nat.le_of_ble_eq_true rfl) dX2_chosenBy_46 ?_
      exact absurd (by unfold f_X2_chosenBy; rw [if_neg c4_0, if_pos c4_1, if_pos c46]; exact c46) h
    · skip
      refine k_call0 (pc := 46) C cv_X2_102 (ct_X2_leastFace_n hg c46) (k_in2 hg) rfl (by decide) rfl (Nat.le_of_ble_eq_true rfl) dX2_chosenBy_46 ?_
      exact k_aret (pc := 49) (x := none) C rfl (Or.inl ⟨_, rfl⟩) k_rt_rf dX2_chosenBy_49
  by_cases c4_2 : (mi (0, g, i2) 4) = 2
  · skip
    refine k_tabIn (pc := 4) (v := 2) C 50 dX2_chosenBy_4 c4_2 (by decide) (by decide) rfl (by decide) ?_
    refine k_aload_n (pc := 50) C dX2_chosenBy_50 rfl ?_
    by_cases c51 : f_X2_fewestPicked mi g 6 < 6
    · skip
      refine k_call0 (pc := 51) C cv_X2_105 (ct_X2_fewestPicked_s hg c51) (k_in2 hg) rfl (by decide) rfl (Nat.le_of_ble_eq_true rfl) dX2_chosenBy_51 ?_
      exact absurd (by unfold f_X2_chosenBy; rw [if_neg c4_0, if_neg c4_1, if_pos c4_2, if_pos c51]; exact c51) h
    · skip
      refine k_call0 (pc := 51) C cv_X2_105 (ct_X2_fewestPicked_n hg c51) (k_in2 hg) rfl (by decide) rfl (Nat.le_of_ble_eq_true rfl) dX2_chosenBy_51 ?_
      exact k_aret (pc := 54) (x := none) C rfl (Or.inl ⟨_, rfl⟩) k_rt_rf dX2_chosenBy_54
  by_cases c4_3 : (mi (0, g, i2) 4) = 3
  · skip
    refine k_tabIn (pc := 4) (v := 3) C 55 dX2_chosenBy_4 c4_3 (by decide) (by decide) rfl (by decide) ?_
    refine k_aload_n (pc := 55) C dX2_chosenBy_55 rfl ?_
    refine k_aload_n (pc := 56) C dX2_chosenBy_56 rfl ?_
    refine k_aload_n (pc := 57) C dX2_chosenBy_57 rfl ?_
    refine k_aload_n (pc := 58) C dX2_chosenBy_58 rfl ?_
    refine k_call0 (pc := 59) C cv_X2_58 (ct_X2_countOpen hg) (k_in2 hg) rfl (by decide) rfl (Nat.le_of_ble_eq_true rfl) dX2_chosenBy_59 ?_
    refine k_call2 (pc := 62) C cv_X2_108 (ct_X2_blindPlace hg hi2) (k_in2 hg) rfl (by decide) rfl (Nat.le_of_ble_eq_true rfl) dX2_chosenBy_62 ?_
    by_cases c65 : f_X2_openAt mi g (f_X2_blindPlace mi g i2 (nI <| f_X2_countOpen mi g 6)) < 6
    · skip
      refine k_call1 (pc := 65) C cv_X2_112 (ct_X2_openAt_s hg c65) (k_in2 hg) rfl (by decide) rfl (Nat.le_of_ble_eq_true rfl) dX2_chosenBy_65 ?_
      exact absurd (by unfold f_X2_chosenBy; rw [if_neg c4_0, if_neg c4_1, if_neg c4_2, if_pos c4_3, if_pos c65]; exact c65) h
    · skip
      refine k_call1 (pc := 65) C cv_X2_112 (ct_X2_openAt_n hg c65) (k_in2 hg) rfl (by decide) rfl (Nat.le_of_ble_eq_true rfl) dX2_chosenBy_65 ?_
      exact k_aret (pc := 68) (x := none) C rfl (Or.inl ⟨_, rfl⟩) k_rt_rf dX2_chosenBy_68
  by_cases c4_4 : (mi (0, g, i2) 4) = 4
  · skip
    refine k_tabIn (pc := 4) (v := 4) C 69 dX2_chosenBy_4 c4_4 (by decide) (by decide) rfl (by decide) ?_
    refine k_aload_n (pc := 69) C dX2_chosenBy_69 rfl ?_
    refine k_aload_n (pc := 70) C dX2_chosenBy_70 rfl ?_
    refine k_call1 (pc := 71) C cv_X2_116 (ct_X2_canStay hg hi2) (k_in2 hg) rfl (by decide) rfl (Nat.le_of_ble_eq_true rfl) dX2_chosenBy_71 ?_
    refine k_if_eq (pc := 74) C 88 dX2_chosenBy_74 (by decide) (fun c74 => ?_) (fun c74 => ?_)
    · skip
      refine k_aload_n (pc := 88) C dX2_chosenBy_88 rfl ?_
      by_cases c89 : f_X2_greatestFace mi g 6 < 6
      · skip
        refine k_call0 (pc := 89) C cv_X2_98 (ct_X2_greatestFace_s hg c89) (k_in2 hg) rfl (by decide) rfl (Nat.le_of_ble_eq_true rfl) dX2_chosenBy_89 ?_
        exact absurd (by unfold f_X2_chosenBy; rw [if_neg c4_0, if_neg c4_1, if_neg c4_2, if_neg c4_3, if_pos c4_4, if_pos c74, if_pos c89]; exact c89) h
      · skip
        refine k_call0 (pc := 89) C cv_X2_98 (ct_X2_greatestFace_n hg c89) (k_in2 hg) rfl (by decide) rfl (Nat.le_of_ble_eq_true rfl) dX2_chosenBy_89 ?_
        exact k_aret (pc := 92) (x := none) C rfl (Or.inl ⟨_, rfl⟩) k_rt_rf dX2_chosenBy_92
    · skip
      refine k_aload_n (pc := 77) C dX2_chosenBy_77 rfl ?_
      refine k_aload_n (pc := 78) C dX2_chosenBy_78 rfl ?_
      refine k_getI (pc := 79) C fl_X2_120 (k_in0 hg hi2) rfl rfl dX2_chosenBy_79 ?_
      by_cases c82 : f_X2_citizenAt mi g (mi (0, g, i2) 5) < 6
      · skip
        refine k_call1 (pc := 82) C cv_X2_123 (ct_X2_citizenAt_s hg c82) (k_in2 hg) rfl (by decide) rfl (Nat.le_of_ble_eq_true rfl) dX2_chosenBy_82 ?_
        refine k_goto (pc := 85) C 92 dX2_chosenBy_85 (by decide) ?_
        exact absurd (by unfold f_X2_chosenBy; rw [if_neg c4_0, if_neg c4_1, if_neg c4_2, if_neg c4_3, if_pos c4_4, if_neg c74, if_pos c82]; exact c82) h
      · skip
        refine k_call1 (pc := 82) C cv_X2_123 (ct_X2_citizenAt_n hg c82) (k_in2 hg) rfl (by decide) rfl (Nat.le_of_ble_eq_true rfl) dX2_chosenBy_82 ?_
        refine k_goto (pc := 85) C 92 dX2_chosenBy_85 (by decide) ?_
        exact k_aret (pc := 92) (x := none) C rfl (Or.inl ⟨_, rfl⟩) k_rt_rf dX2_chosenBy_92
  refine k_tabOut (pc := 4) C 93 dX2_chosenBy_4 (k_out 0 4 (fun v h1 h2 => by rcases (show v = 0 ∨ v = 1 ∨ v = 2 ∨ v = 3 ∨ v = 4 by omega) with rfl | rfl | rfl | rfl | rfl <;> first | exact c4_0 | exact c4_1 | exact c4_2 | exact c4_3 | exact c4_4)) (by decide) ?_
  refine k_null (pc := 93) C dX2_chosenBy_93 ?_
  exact k_aret (pc := 94) (x := none) C rfl (Or.inl ⟨_, rfl⟩) k_rt_rf dX2_chosenBy_94
def f_X2_goBy2 (mi : MemI) (g : Nat) : Nat → MemI
  | 0 => mi
  | j + 1 =>
    if (f_X0_comes (k_ui (k_ui (f_X2_goBy2 mi g j) (0, g, j) 7 (-1)) (0, g, j) 8 0) g j) = 0 then k_ui (k_ui (f_X2_goBy2 mi g j) (0, g, j) 7 (-1)) (0, g, j) 8 0
    else if f_X2_chosenBy (k_ui (k_ui (f_X2_goBy2 mi g j) (0, g, j) 7 (-1)) (0, g, j) 8 0) g j < 6 then f_X1_receive (k_ui (k_ui (f_X2_goBy2 mi g j) (0, g, j) 7 (-1)) (0, g, j) 8 0) g (f_X2_chosenBy (k_ui (k_ui (f_X2_goBy2 mi g j) (0, g, j) 7 (-1)) (0, g, j) 8 0) g j) g j
      else k_ui (k_ui (f_X2_goBy2 mi g j) (0, g, j) 7 (-1)) (0, g, j) 8 0
theorem f_X2_goBy2_s (mi : MemI) (g : Nat) (j : Nat) : f_X2_goBy2 mi g (j + 1) =
    if (f_X0_comes (k_ui (k_ui (f_X2_goBy2 mi g j) (0, g, j) 7 (-1)) (0, g, j) 8 0) g j) = 0 then k_ui (k_ui (f_X2_goBy2 mi g j) (0, g, j) 7 (-1)) (0, g, j) 8 0
    else if f_X2_chosenBy (k_ui (k_ui (f_X2_goBy2 mi g j) (0, g, j) 7 (-1)) (0, g, j) 8 0) g j < 6 then f_X1_receive (k_ui (k_ui (f_X2_goBy2 mi g j) (0, g, j) 7 (-1)) (0, g, j) 8 0) g (f_X2_chosenBy (k_ui (k_ui (f_X2_goBy2 mi g j) (0, g, j) 7 (-1)) (0, g, j) 8 0) g j) g j
      else k_ui (k_ui (f_X2_goBy2 mi g j) (0, g, j) 7 (-1)) (0, g, j) 8 0 := rfl
def f_X2_goBy1 (mi : MemI) (g : Nat) : Nat → MemI
  | 0 => mi
  | j + 1 =>
    f_X1_beginMorning (f_X2_goBy1 mi g j) g j
theorem f_X2_goBy1_s (mi : MemI) (g : Nat) (j : Nat) : f_X2_goBy1 mi g (j + 1) =
    f_X1_beginMorning (f_X2_goBy1 mi g j) g j := rfl
def f_X2_goBy (mi : MemI) (g : Nat) : MemI :=
  f_X2_goBy2 (f_X2_goBy1 mi g 6) g 6
set_option maxRecDepth 100000 in
set_option maxHeartbeats 4000000 in
theorem ct_X2_goBy {mi : MemI} {ml : MemL} {g : Nat} (hg : g < 3) : k_Ct k_KS k_R0 Mt_X2_goBy 3 [vR (2, g, 0)] mi ml (k_rt none (f_X2_goBy mi g) ml) := by
  refine k_ofV (L0 := [vR (2, g, 0), vU, vU, vU, vU, vU]) (by decide +kernel) (Nat.le_of_ble_eq_true rfl) rfl rfl ?_
  intro p l e s m args below meth c D cy ad bs C
  refine k_aload_n (pc := 0) C dX2_goBy_0 rfl ?_
  refine k_getR (pc := 1) (r := some (11, g, 0)) C fl_X2_11 (k_in2 hg) rfl rfl rfl dX2_goBy_1 ?_
  refine k_astore_1 (pc := 4) C dX2_goBy_4 rfl ?_
  refine k_aload_n (pc := 5) C dX2_goBy_5 rfl ?_
  refine k_alen (pc := 6) (v := 6) C (k_in11 hg) ⟨Nat.le_of_ble_eq_true rfl, Nat.le_of_ble_eq_true rfl⟩ rfl dX2_goBy_6 ?_
  refine k_istore_2 (pc := 7) C dX2_goBy_7 rfl ?_
  refine k_iconst (pc := 8) (v := 0) C dX2_goBy_8 (by decide) ?_
  refine k_istore_3 (pc := 9) C dX2_goBy_9 rfl ?_
  refine k_cast (L' := [vR (2, g, 0), vR (11, g, 0), vI 6, vI (nI 0), vU, vU]) (mi' := f_X2_goBy1 mi g 0) rfl rfl rfl ?_
  refine k_down (P := fun j => k_V p l e (k_rm 3) s m args below meth c D cy ad bs k_KS k_R0 0 0 (k_End below D cy ad bs k_KS k_R0 (k_rt none (f_X2_goBy mi g) ml) args s) (f_X2_goBy1 mi g j) ml 10 [vR (2, g, 0), vR (11, g, 0), vI 6, vI (nI j), vU, vU] []) 6 ?_ (fun j hj hk => ?_)
  · skip
    refine k_iload_n (pc := 10) C dX2_goBy_10 rfl ?_
    refine k_iload_n (pc := 11) C dX2_goBy_11 rfl ?_
    refine k_icmp_geT (pc := 12) C 31 dX2_goBy_12 (by decide) (by decide) ?_
    refine k_aload_n (pc := 31) C dX2_goBy_31 rfl ?_
    refine k_getR (pc := 32) (r := some (10, g, 0)) C fl_X2_19 (k_in2 hg) rfl rfl rfl dX2_goBy_32 ?_
    refine k_astore_1 (pc := 35) C dX2_goBy_35 rfl ?_
    refine k_aload_n (pc := 36) C dX2_goBy_36 rfl ?_
    refine k_alen (pc := 37) (v := 6) C (k_in10 hg) ⟨Nat.le_of_ble_eq_true rfl, Nat.le_of_ble_eq_true rfl⟩ rfl dX2_goBy_37 ?_
    refine k_istore_2 (pc := 38) C dX2_goBy_38 rfl ?_
    refine k_iconst (pc := 39) (v := 0) C dX2_goBy_39 (by decide) ?_
    refine k_istore_3 (pc := 40) C dX2_goBy_40 rfl ?_
    refine k_cast (L' := [vR (2, g, 0), vR (10, g, 0), vI 6, vI (nI 0), vU, vU]) (mi' := f_X2_goBy2 (f_X2_goBy1 mi g 6) g 0) rfl rfl rfl ?_
    refine k_down (P := fun j => k_V p l e (k_rm 3) s m args below meth c D cy ad bs k_KS k_R0 0 0 (k_End below D cy ad bs k_KS k_R0 (k_rt none (f_X2_goBy mi g) ml) args s) (f_X2_goBy2 (f_X2_goBy1 mi g 6) g j) ml 41 [vR (2, g, 0), vR (10, g, 0), vI 6, vI (nI j), vU, vU] []) 6 ?_ (fun j hj hk => ?_)
    · skip
      refine k_iload_n (pc := 41) C dX2_goBy_41 rfl ?_
      refine k_iload_n (pc := 42) C dX2_goBy_42 rfl ?_
      refine k_icmp_geT (pc := 43) C 101 dX2_goBy_43 (by decide) (by decide) ?_
      exact k_vret (pc := 101) C rfl (k_fm rfl) dX2_goBy_101
    · skip
      try dsimp only at hk
      refine k_iload_n (pc := 41) C dX2_goBy_41 rfl ?_
      refine k_iload_n (pc := 42) C dX2_goBy_42 rfl ?_
      refine k_icmp_geF (pc := 43) C 101 dX2_goBy_43 (by decide) (k_nge (n := 6) rfl (by decide) hj) ?_
      refine k_aload_n (pc := 46) C dX2_goBy_46 rfl ?_
      refine k_iload_n (pc := 47) C dX2_goBy_47 rfl ?_
      refine k_aaldX (pc := 48) (j := j) (kr := (0, g, j)) C (nI_clamp (by omega)) (k_in10 hg) (Or.inl rfl) (vp_in_nI (show _ < (6 : Nat) by omega) (show (6 : Nat) < 2 ^ 31 by decide)) rfl dX2_goBy_48 ?_
      refine k_astore_4 (pc := 49) C dX2_goBy_49 rfl ?_
      refine k_aload (pc := 51) C dX2_goBy_51 rfl ?_
      refine k_iconst (pc := 53) (v := (-1)) C dX2_goBy_53 (by decide) ?_
      refine k_putI (pc := 54) C pl_X2_82 (k_in0 hg hj) rfl rfl dX2_goBy_54 ?_
      refine k_aload (pc := 57) C dX2_goBy_57 rfl ?_
      refine k_iconst (pc := 59) (v := 0) C dX2_goBy_59 (by decide) ?_
      refine k_putZ (pc := 60) C (Or.inl rfl) pl_X2_85 (k_in0 hg hj) rfl rfl dX2_goBy_60 ?_
      refine k_aload (pc := 63) C dX2_goBy_63 rfl ?_
      refine k_call0 (pc := 65) C cv_X2_62 (ct_X0_comes hg hj) (k_in0 hg hj) rfl (by decide) rfl (Nat.le_of_ble_eq_true rfl) dX2_goBy_65 ?_
      refine k_if_eq (pc := 68) C 80 dX2_goBy_68 (by decide) (fun c68 => ?_) (fun c68 => ?_)
      · skip
        refine k_null (pc := 80) C dX2_goBy_80 ?_
        refine k_astore_5 (pc := 81) C dX2_goBy_81 rfl ?_
        refine k_aload (pc := 83) C dX2_goBy_83 rfl ?_
        refine k_ifnullN (pc := 85) C 95 dX2_goBy_85 (by decide) ?_
        refine k_iinc_3 (pc := 95) (v := nI (j + 1)) C dX2_goBy_95 (k_inc j) rfl ?_
        refine k_goto (pc := 98) C 41 dX2_goBy_98 (by decide) ?_
        refine k_drop_4 ?_
        refine k_drop_5 ?_
        exact k_cast rfl (by rw [f_X2_goBy2_s, if_pos c68]) rfl hk
      · skip
        refine k_aload_n (pc := 71) C dX2_goBy_71 rfl ?_
        refine k_aload (pc := 72) C dX2_goBy_72 rfl ?_
        by_cases c74 : f_X2_chosenBy (k_ui (k_ui (f_X2_goBy2 (f_X2_goBy1 mi g 6) g j) (0, g, j) 7 (-1)) (0, g, j) 8 0) g j < 6
        · skip
          refine k_call1 (pc := 74) C cv_X2_88 (ct_X2_chosenBy_s hg hj c74) (k_in2 hg) rfl (by decide) rfl (Nat.le_of_ble_eq_true rfl) dX2_goBy_74 ?_
          refine k_goto (pc := 77) C 81 dX2_goBy_77 (by decide) ?_
          refine k_astore_5 (pc := 81) C dX2_goBy_81 rfl ?_
          refine k_aload (pc := 83) C dX2_goBy_83 rfl ?_
          refine k_ifnullR (pc := 85) C dX2_goBy_85 ?_
          refine k_aload (pc := 88) C dX2_goBy_88 rfl ?_
          refine k_aload (pc := 90) C dX2_goBy_90 rfl ?_
          refine k_callv1 (pc := 92) C cv_X2_92 (ct_X1_receive hg c74 hg hj) (k_in1 hg c74) rfl (by decide) rfl (Nat.le_of_ble_eq_true rfl) dX2_goBy_92 ?_
          refine k_iinc_3 (pc := 95) (v := nI (j + 1)) C dX2_goBy_95 (k_inc j) rfl ?_
          refine k_goto (pc := 98) C 41 dX2_goBy_98 (by decide) ?_
          refine k_drop_4 ?_
          refine k_drop_5 ?_
          exact k_cast rfl (by rw [f_X2_goBy2_s, if_neg c68, if_pos c74]) rfl hk
        · skip
          refine k_call1 (pc := 74) C cv_X2_88 (ct_X2_chosenBy_n hg hj c74) (k_in2 hg) rfl (by decide) rfl (Nat.le_of_ble_eq_true rfl) dX2_goBy_74 ?_
          refine k_goto (pc := 77) C 81 dX2_goBy_77 (by decide) ?_
          refine k_astore_5 (pc := 81) C dX2_goBy_81 rfl ?_
          refine k_aload (pc := 83) C dX2_goBy_83 rfl ?_
          refine k_ifnullN (pc := 85) C 95 dX2_goBy_85 (by decide) ?_
          refine k_iinc_3 (pc := 95) (v := nI (j + 1)) C dX2_goBy_95 (k_inc j) rfl ?_
          refine k_goto (pc := 98) C 41 dX2_goBy_98 (by decide) ?_
          refine k_drop_4 ?_
          refine k_drop_5 ?_
          exact k_cast rfl (by rw [f_X2_goBy2_s, if_neg c68, if_neg c74]) rfl hk
  · skip
    try dsimp only at hk
    refine k_iload_n (pc := 10) C dX2_goBy_10 rfl ?_
    refine k_iload_n (pc := 11) C dX2_goBy_11 rfl ?_
    refine k_icmp_geF (pc := 12) C 31 dX2_goBy_12 (by decide) (k_nge (n := 6) rfl (by decide) hj) ?_
    refine k_aload_n (pc := 15) C dX2_goBy_15 rfl ?_
    refine k_iload_n (pc := 16) C dX2_goBy_16 rfl ?_
    refine k_aaldX (pc := 17) (j := j) (kr := (1, g, j)) C (nI_clamp (by omega)) (k_in11 hg) (Or.inr (Or.inl rfl)) (vp_in_nI (show _ < (6 : Nat) by omega) (show (6 : Nat) < 2 ^ 31 by decide)) rfl dX2_goBy_17 ?_
    refine k_astore_4 (pc := 18) C dX2_goBy_18 rfl ?_
    refine k_aload (pc := 20) C dX2_goBy_20 rfl ?_
    refine k_callv0 (pc := 22) C cv_X2_79 (ct_X1_beginMorning hg hj) (k_in1 hg hj) rfl (by decide) rfl (Nat.le_of_ble_eq_true rfl) dX2_goBy_22 ?_
    refine k_iinc_3 (pc := 25) (v := nI (j + 1)) C dX2_goBy_25 (k_inc j) rfl ?_
    refine k_goto (pc := 28) C 10 dX2_goBy_28 (by decide) ?_
    refine k_drop_4 ?_
    exact k_cast rfl (by rw [f_X2_goBy1_s]) rfl hk
def f_X2_pass2 (mi : MemI) (g : Nat) : Nat → MemI
  | 0 => mi
  | j + 1 =>
    f_X0_endMorning (f_X2_pass2 mi g j) g j
theorem f_X2_pass2_s (mi : MemI) (g : Nat) (j : Nat) : f_X2_pass2 mi g (j + 1) =
    f_X0_endMorning (f_X2_pass2 mi g j) g j := rfl
def f_X2_pass1 (mi : MemI) (g : Nat) : Nat → MemI
  | 0 => mi
  | j + 1 =>
    f_X1_endMorning (f_X2_pass1 mi g j) g j
theorem f_X2_pass1_s (mi : MemI) (g : Nat) (j : Nat) : f_X2_pass1 mi g (j + 1) =
    f_X1_endMorning (f_X2_pass1 mi g j) g j := rfl
def f_X2_passMorning (mi : MemI) (g : Nat) : Int32 × MemI :=
  (nI <| f_X2_countUnkept (f_X2_goBy mi g) g 6, k_ui (f_X2_pass2 (f_X2_pass1 (f_X2_goBy mi g) g 6) g 6) (2, g, 0) 4 (((f_X2_pass2 (f_X2_pass1 (f_X2_goBy mi g) g 6) g 6) (2, g, 0) 4) + 1))
set_option maxRecDepth 100000 in
set_option maxHeartbeats 4000000 in
theorem ct_X2_passMorning {mi : MemI} {ml : MemL} {g : Nat} (hg : g < 3) : k_Ct k_KS k_R0 Mt_X2_passMorning 4 [vR (2, g, 0)] mi ml (k_rt (some (vI (f_X2_passMorning mi g).1)) (f_X2_passMorning mi g).2 ml) := by
  refine k_ofV (L0 := [vR (2, g, 0), vU, vU, vU, vU, vU]) (by decide +kernel) (Nat.le_of_ble_eq_true rfl) rfl rfl ?_
  intro p l e s m args below meth c D cy ad bs C
  refine k_aload_n (pc := 0) C dX2_passMorning_0 rfl ?_
  refine k_callv0 (pc := 1) C cv_X2_135 (ct_X2_goBy hg) (k_in2 hg) rfl (by decide) rfl (Nat.le_of_ble_eq_true rfl) dX2_passMorning_1 ?_
  refine k_aload_n (pc := 4) C dX2_passMorning_4 rfl ?_
  refine k_call0 (pc := 5) C cv_X2_138 (ct_X2_countUnkept hg) (k_in2 hg) rfl (by decide) rfl (Nat.le_of_ble_eq_true rfl) dX2_passMorning_5 ?_
  refine k_istore_1 (pc := 8) C dX2_passMorning_8 rfl ?_
  refine k_aload_n (pc := 9) C dX2_passMorning_9 rfl ?_
  refine k_getR (pc := 10) (r := some (11, g, 0)) C fl_X2_11 (k_in2 hg) rfl rfl rfl dX2_passMorning_10 ?_
  refine k_astore_2 (pc := 13) C dX2_passMorning_13 rfl ?_
  refine k_aload_n (pc := 14) C dX2_passMorning_14 rfl ?_
  refine k_alen (pc := 15) (v := 6) C (k_in11 hg) ⟨Nat.le_of_ble_eq_true rfl, Nat.le_of_ble_eq_true rfl⟩ rfl dX2_passMorning_15 ?_
  refine k_istore_3 (pc := 16) C dX2_passMorning_16 rfl ?_
  refine k_iconst (pc := 17) (v := 0) C dX2_passMorning_17 (by decide) ?_
  refine k_istore_4 (pc := 18) C dX2_passMorning_18 rfl ?_
  refine k_cast (L' := [vR (2, g, 0), vI (nI <| f_X2_countUnkept (f_X2_goBy mi g) g 6), vR (11, g, 0), vI 6, vI (nI 0), vU]) (mi' := f_X2_pass1 (f_X2_goBy mi g) g 0) rfl rfl rfl ?_
  refine k_down (P := fun j => k_V p l e (k_rm 4) s m args below meth c D cy ad bs k_KS k_R0 0 0 (k_End below D cy ad bs k_KS k_R0 (k_rt (some (vI (f_X2_passMorning mi g).1)) (f_X2_passMorning mi g).2 ml) args s) (f_X2_pass1 (f_X2_goBy mi g) g j) ml 20 [vR (2, g, 0), vI (nI <| f_X2_countUnkept (f_X2_goBy mi g) g 6), vR (11, g, 0), vI 6, vI (nI j), vU] []) 6 ?_ (fun j hj hk => ?_)
  · skip
    refine k_iload (pc := 20) C dX2_passMorning_20 rfl ?_
    refine k_iload_n (pc := 22) C dX2_passMorning_22 rfl ?_
    refine k_icmp_geT (pc := 23) C 43 dX2_passMorning_23 (by decide) (by decide) ?_
    refine k_aload_n (pc := 43) C dX2_passMorning_43 rfl ?_
    refine k_getR (pc := 44) (r := some (10, g, 0)) C fl_X2_19 (k_in2 hg) rfl rfl rfl dX2_passMorning_44 ?_
    refine k_astore_2 (pc := 47) C dX2_passMorning_47 rfl ?_
    refine k_aload_n (pc := 48) C dX2_passMorning_48 rfl ?_
    refine k_alen (pc := 49) (v := 6) C (k_in10 hg) ⟨Nat.le_of_ble_eq_true rfl, Nat.le_of_ble_eq_true rfl⟩ rfl dX2_passMorning_49 ?_
    refine k_istore_3 (pc := 50) C dX2_passMorning_50 rfl ?_
    refine k_iconst (pc := 51) (v := 0) C dX2_passMorning_51 (by decide) ?_
    refine k_istore_4 (pc := 52) C dX2_passMorning_52 rfl ?_
    refine k_cast (L' := [vR (2, g, 0), vI (nI <| f_X2_countUnkept (f_X2_goBy mi g) g 6), vR (10, g, 0), vI 6, vI (nI 0), vU]) (mi' := f_X2_pass2 (f_X2_pass1 (f_X2_goBy mi g) g 6) g 0) rfl rfl rfl ?_
    refine k_down (P := fun j => k_V p l e (k_rm 4) s m args below meth c D cy ad bs k_KS k_R0 0 0 (k_End below D cy ad bs k_KS k_R0 (k_rt (some (vI (f_X2_passMorning mi g).1)) (f_X2_passMorning mi g).2 ml) args s) (f_X2_pass2 (f_X2_pass1 (f_X2_goBy mi g) g 6) g j) ml 54 [vR (2, g, 0), vI (nI <| f_X2_countUnkept (f_X2_goBy mi g) g 6), vR (10, g, 0), vI 6, vI (nI j), vU] []) 6 ?_ (fun j hj hk => ?_)
    · skip
      refine k_iload (pc := 54) C dX2_passMorning_54 rfl ?_
      refine k_iload_n (pc := 56) C dX2_passMorning_56 rfl ?_
      refine k_icmp_geT (pc := 57) C 77 dX2_passMorning_57 (by decide) (by decide) ?_
      refine k_aload_n (pc := 77) C dX2_passMorning_77 rfl ?_
      refine k_dup (pc := 78) C dX2_passMorning_78 rfl ?_
      refine k_getI (pc := 79) C fl_X2_44 (k_in2 hg) rfl rfl dX2_passMorning_79 ?_
      refine k_iconst (pc := 82) (v := 1) C dX2_passMorning_82 (by decide) ?_
      refine k_iadd (pc := 83) C dX2_passMorning_83 ?_
      refine k_putI (pc := 84) C pl_X2_44 (k_in2 hg) rfl rfl dX2_passMorning_84 ?_
      refine k_iload_n (pc := 87) C dX2_passMorning_87 rfl ?_
      exact k_iret (pc := 88) C rfl  (k_fIm rfl) dX2_passMorning_88
    · skip
      try dsimp only at hk
      refine k_iload (pc := 54) C dX2_passMorning_54 rfl ?_
      refine k_iload_n (pc := 56) C dX2_passMorning_56 rfl ?_
      refine k_icmp_geF (pc := 57) C 77 dX2_passMorning_57 (by decide) (k_nge (n := 6) rfl (by decide) hj) ?_
      refine k_aload_n (pc := 60) C dX2_passMorning_60 rfl ?_
      refine k_iload (pc := 61) C dX2_passMorning_61 rfl ?_
      refine k_aaldX (pc := 63) (j := j) (kr := (0, g, j)) C (nI_clamp (by omega)) (k_in10 hg) (Or.inl rfl) (vp_in_nI (show _ < (6 : Nat) by omega) (show (6 : Nat) < 2 ^ 31 by decide)) rfl dX2_passMorning_63 ?_
      refine k_astore_5 (pc := 64) C dX2_passMorning_64 rfl ?_
      refine k_aload (pc := 66) C dX2_passMorning_66 rfl ?_
      refine k_callv0 (pc := 68) C cv_X2_144 (ct_X0_endMorning hg hj) (k_in0 hg hj) rfl (by decide) rfl (Nat.le_of_ble_eq_true rfl) dX2_passMorning_68 ?_
      refine k_iinc_4 (pc := 71) (v := nI (j + 1)) C dX2_passMorning_71 (k_inc j) rfl ?_
      refine k_goto (pc := 74) C 54 dX2_passMorning_74 (by decide) ?_
      refine k_drop_5 ?_
      exact k_cast rfl (by rw [f_X2_pass2_s]) rfl hk
  · skip
    try dsimp only at hk
    refine k_iload (pc := 20) C dX2_passMorning_20 rfl ?_
    refine k_iload_n (pc := 22) C dX2_passMorning_22 rfl ?_
    refine k_icmp_geF (pc := 23) C 43 dX2_passMorning_23 (by decide) (k_nge (n := 6) rfl (by decide) hj) ?_
    refine k_aload_n (pc := 26) C dX2_passMorning_26 rfl ?_
    refine k_iload (pc := 27) C dX2_passMorning_27 rfl ?_
    refine k_aaldX (pc := 29) (j := j) (kr := (1, g, j)) C (nI_clamp (by omega)) (k_in11 hg) (Or.inr (Or.inl rfl)) (vp_in_nI (show _ < (6 : Nat) by omega) (show (6 : Nat) < 2 ^ 31 by decide)) rfl dX2_passMorning_29 ?_
    refine k_astore_5 (pc := 30) C dX2_passMorning_30 rfl ?_
    refine k_aload (pc := 32) C dX2_passMorning_32 rfl ?_
    refine k_callv0 (pc := 34) C cv_X2_141 (ct_X1_endMorning hg hj) (k_in1 hg hj) rfl (by decide) rfl (Nat.le_of_ble_eq_true rfl) dX2_passMorning_34 ?_
    refine k_iinc_4 (pc := 37) (v := nI (j + 1)) C dX2_passMorning_37 (k_inc j) rfl ?_
    refine k_goto (pc := 40) C 20 dX2_passMorning_40 (by decide) ?_
    refine k_drop_5 ?_
    exact k_cast rfl (by rw [f_X2_pass1_s]) rfl hk
def f_X2_hungryMorning (mi : MemI) (g : Nat) : Int32 × MemI :=
  (nI <| f_X2_countUnkept (f_X2_goBy mi g) g 6, f_X2_goBy mi g)
set_option maxRecDepth 100000 in
set_option maxHeartbeats 4000000 in
theorem ct_X2_hungryMorning {mi : MemI} {ml : MemL} {g : Nat} (hg : g < 3) : k_Ct k_KS k_R0 Mt_X2_hungryMorning 4 [vR (2, g, 0)] mi ml (k_rt (some (vI (f_X2_hungryMorning mi g).1)) (f_X2_hungryMorning mi g).2 ml) := by
  refine k_ofV (L0 := [vR (2, g, 0)]) (by decide +kernel) (Nat.le_of_ble_eq_true rfl) rfl rfl ?_
  intro p l e s m args below meth c D cy ad bs C
  refine k_aload_n (pc := 0) C dX2_hungryMorning_0 rfl ?_
  refine k_callv0 (pc := 1) C cv_X2_135 (ct_X2_goBy hg) (k_in2 hg) rfl (by decide) rfl (Nat.le_of_ble_eq_true rfl) dX2_hungryMorning_1 ?_
  refine k_aload_n (pc := 4) C dX2_hungryMorning_4 rfl ?_
  refine k_call0 (pc := 5) C cv_X2_138 (ct_X2_countUnkept hg) (k_in2 hg) rfl (by decide) rfl (Nat.le_of_ble_eq_true rfl) dX2_hungryMorning_5 ?_
  exact k_iret (pc := 8) C rfl (k_fIm rfl) dX2_hungryMorning_8
