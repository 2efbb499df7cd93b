/-! the law's loop -/
section LO
variable {p : Program} {l : Launch} {e : Env} {s : State} {m : MethodId} {args : Array Value} {below : List Frame} {meth : Method} {c : Code} {D : va_G} {cy : Nat → ClassId} {ad : Ky → Nat} {bs : Nat} {cells slots : Nat} {Q : State → Prop} {b n : Nat} {xs : Nat → Int32} {nm : String}
theorem k_and63 (x : Int32) : ∃ j, j < 64 ∧ x &&& 63 = nI j := by
  refine ⟨(x &&& 63).toBitVec.toNat, ?_, ?_⟩
  · have : (x &&& 63).toBitVec.toNat ≤ 63 := by
      rw [Int32.toBitVec_and, BitVec.toNat_and]
      exact Nat.and_le_right
    omega
  · apply Int32.toBitVec_inj.mp
    show _ = BitVec.ofNat 32 _
    rw [BitVec.ofNat_toNat, BitVec.setWidth_eq]
theorem lp_out {i : Nat} (hi : i ≤ n) (hn : n ≤ 3072) : nI n - 6 < nI i ↔ n < i + 6 := by
  rw [Int32.lt_iff_toInt_lt, nI_toInt (by omega)]
  have e : (nI n - 6).toInt = (n : Int) - 6 := by
    rw [Int32.toInt_sub, nI_toInt (by omega)]
    have e6 : (6 : Int32).toInt = 6 := rfl
    rw [e6]
    exact Int.bmod_eq_of_le (by omega) (by omega)
  rw [e]
  omega
theorem lp_body {i : Nat} {mi : MemI} {ml : MemL} (C : k_Cx p s m args meth c D cy ad bs k_KS (Mt_L nm)) (X : k_LX s ad bs b n xs) (hcs : cells ≤ room_1.cells ∧ slots ≤ room_1.slots) (hi : i + 5 < n) (J : k_J mi ml) (kont : ∀ mi ml, k_J mi ml → k_V p l e room_1 s m args below meth c D cy ad bs k_KS k_R0 cells slots Q mi ml 1287 (k_Lc i) []) : k_V p l e room_1 s m args below meth c D cy ad bs k_KS k_R0 cells slots Q mi ml 27 (k_Lc i) [] := by
  have hn := X.2.2.2.2
  obtain ⟨nC, nB, h⟩ := id J
  refine k_aload_n (pc := 27) C dL_law_27 rfl ?_
  refine k_iload_n (pc := 28) C dL_law_28 rfl ?_
  refine k_sld (pc := 29) C X (vp_in_nI (show i < n by omega) (by omega)) dL_law_29 ?_
  refine k_bipush (pc := 30) (v := 63) C dL_law_30 (by decide) ?_
  refine k_iand (pc := 32) C dL_law_32 ?_
  obtain ⟨j, hj, ej⟩ := k_and63 (xs (nI i).toNatClampNeg)
  rw [ej]
  by_cases j36 : 36 ≤ j
  · refine k_tabOut (pc := 33) C 1287 dL_law_33 (Or.inr ?_) (by decide) (kont _ _ J)
    rw [nI_toInt (by omega)]
    omega
  · rcases (show j = 0 ∨ j = 1 ∨ j = 2 ∨ j = 3 ∨ j = 4 ∨ j = 5 ∨ j = 6 ∨ j = 7 ∨ j = 8 ∨ j = 9 ∨ j = 10 ∨ j = 11 ∨ j = 12 ∨ j = 13 ∨ j = 14 ∨ j = 15 ∨ j = 16 ∨ j = 17 ∨ j = 18 ∨ j = 19 ∨ j = 20 ∨ j = 21 ∨ j = 22 ∨ j = 23 ∨ j = 24 ∨ j = 25 ∨ j = 26 ∨ j = 27 ∨ j = 28 ∨ j = 29 ∨ j = 30 ∨ j = 31 ∨ j = 32 ∨ j = 33 ∨ j = 34 ∨ j = 35 by omega) with rfl | rfl | rfl | rfl | rfl | rfl | rfl | rfl | rfl | rfl | rfl | rfl | rfl | rfl | rfl | rfl | rfl | rfl | rfl | rfl | rfl | rfl | rfl | rfl | rfl | rfl | rfl | rfl | rfl | rfl | rfl | rfl | rfl | rfl | rfl | rfl
    · exact k_tabIn (pc := 33) C (nI 0) 192 dL_law_33 rfl (by decide) (by decide) (off := 159) (by decide) (by decide) (lc_row C X hcs hi h kont)
    · exact k_tabIn (pc := 33) C (nI 1) 235 dL_law_33 rfl (by decide) (by decide) (off := 202) (by decide) (by decide) (lc_set C X hcs hi h kont)
    · exact k_tabIn (pc := 33) C (nI 2) 308 dL_law_33 rfl (by decide) (by decide) (off := 275) (by decide) (by decide) (lc_copy C X hcs hi h kont)
    · exact k_tabIn (pc := 33) C (nI 3) 371 dL_law_33 rfl (by decide) (by decide) (off := 338) (by decide) (by decide) (lc_element C X hcs hi h kont)
    · exact k_tabIn (pc := 33) C (nI 4) 405 dL_law_33 rfl (by decide) (by decide) (off := 372) (by decide) (by decide) (lc_show C X hcs hi h kont)
    · exact k_tabIn (pc := 33) C (nI 5) 438 dL_law_33 rfl (by decide) (by decide) (off := 405) (by decide) (by decide) (lc_holds C X hcs hi h kont)
    · exact k_tabIn (pc := 33) C (nI 6) 461 dL_law_33 rfl (by decide) (by decide) (off := 428) (by decide) (by decide) (lc_says C X hcs hi h kont)
    · exact k_tabIn (pc := 33) C (nI 7) 494 dL_law_33 rfl (by decide) (by decide) (off := 461) (by decide) (by decide) (lc_citizen C X hcs hi h kont)
    · exact k_tabIn (pc := 33) C (nI 8) 547 dL_law_33 rfl (by decide) (by decide) (off := 514) (by decide) (by decide) (lc_beggar C X hcs hi h kont)
    · exact k_tabIn (pc := 33) C (nI 9) 580 dL_law_33 rfl (by decide) (by decide) (off := 547) (by decide) (by decide) (lc_tell C X hcs hi h kont)
    · exact k_tabIn (pc := 33) C (nI 10) 623 dL_law_33 rfl (by decide) (by decide) (off := 590) (by decide) (by decide) (lc_post C X hcs hi h kont)
    · exact k_tabIn (pc := 33) C (nI 11) 672 dL_law_33 rfl (by decide) (by decide) (off := 639) (by decide) (by decide) (lc_citizenOf C X hcs hi h kont)
    · exact k_tabIn (pc := 33) C (nI 12) 705 dL_law_33 rfl (by decide) (by decide) (off := 672) (by decide) (by decide) (lc_beggarOf C X hcs hi h kont)
    · exact k_tabIn (pc := 33) C (nI 13) 738 dL_law_33 rfl (by decide) (by decide) (off := 705) (by decide) (by decide) (lc_city C X hcs hi h kont)
    · exact k_tabIn (pc := 33) C (nI 14) 761 dL_law_33 rfl (by decide) (by decide) (off := 728) (by decide) (by decide) (lc_fault C X hcs hi h kont)
    · exact k_tabIn (pc := 33) C (nI 15) 774 dL_law_33 rfl (by decide) (by decide) (off := 741) (by decide) (by decide) (lc_picks C X hcs hi h kont)
    · exact k_tabIn (pc := 33) C (nI 16) 797 dL_law_33 rfl (by decide) (by decide) (off := 764) (by decide) (by decide) (lc_kept C X hcs hi h kont)
    · exact k_tabIn (pc := 33) C (nI 17) 810 dL_law_33 rfl (by decide) (by decide) (off := 777) (by decide) (by decide) (lc_picked C X hcs hi h kont)
    · exact k_tabIn (pc := 33) C (nI 18) 843 dL_law_33 rfl (by decide) (by decide) (off := 810) (by decide) (by decide) (lc_wear C X hcs hi h kont)
    · exact k_tabIn (pc := 33) C (nI 19) 876 dL_law_33 rfl (by decide) (by decide) (off := 843) (by decide) (by decide) (lc_unkept C X hcs hi h kont)
    · exact k_tabIn (pc := 33) C (nI 20) 909 dL_law_33 rfl (by decide) (by decide) (off := 876) (by decide) (by decide) (lc_parting C X hcs hi h kont)
    · exact k_tabIn (pc := 33) C (nI 21) 932 dL_law_33 rfl (by decide) (by decide) (off := 899) (by decide) (by decide) (lc_rests C X hcs hi h kont)
    · exact k_tabIn (pc := 33) C (nI 22) 955 dL_law_33 rfl (by decide) (by decide) (off := 922) (by decide) (by decide) (lc_shun C X hcs hi h kont)
    · exact k_tabIn (pc := 33) C (nI 23) 988 dL_law_33 rfl (by decide) (by decide) (off := 955) (by decide) (by decide) (lc_rules C X hcs hi h kont)
    · exact k_tabIn (pc := 33) C (nI 24) 1021 dL_law_33 rfl (by decide) (by decide) (off := 988) (by decide) (by decide) (lc_hide C X hcs hi h kont)
    · exact k_tabIn (pc := 33) C (nI 25) 1034 dL_law_33 rfl (by decide) (by decide) (off := 1001) (by decide) (by decide) (lc_lose C X hcs hi h kont)
    · exact k_tabIn (pc := 33) C (nI 26) 1057 dL_law_33 rfl (by decide) (by decide) (off := 1024) (by decide) (by decide) (lc_best C X hcs hi h kont)
    · exact k_tabIn (pc := 33) C (nI 27) 1070 dL_law_33 rfl (by decide) (by decide) (off := 1037) (by decide) (by decide) (lc_judge C X hcs hi h kont)
    · exact k_tabIn (pc := 33) C (nI 28) 1103 dL_law_33 rfl (by decide) (by decide) (off := 1070) (by decide) (by decide) (lc_mornings C X hcs hi h kont)
    · exact k_tabIn (pc := 33) C (nI 29) 1126 dL_law_33 rfl (by decide) (by decide) (off := 1093) (by decide) (by decide) (lc_winters C X hcs hi h kont)
    · exact k_tabIn (pc := 33) C (nI 30) 1149 dL_law_33 rfl (by decide) (by decide) (off := 1116) (by decide) (by decide) (lc_seed C X hcs hi h kont)
    · exact k_tabIn (pc := 33) C (nI 31) 1172 dL_law_33 rfl (by decide) (by decide) (off := 1139) (by decide) (by decide) (lc_act C X hcs hi h kont)
    · exact k_tabIn (pc := 33) C (nI 32) 1215 dL_law_33 rfl (by decide) (by decide) (off := 1182) (by decide) (by decide) (lc_trace C X hcs hi h kont)
    · exact k_tabIn (pc := 33) C (nI 33) 1238 dL_law_33 rfl (by decide) (by decide) (off := 1205) (by decide) (by decide) (lc_image C X hcs hi h kont)
    · exact k_tabIn (pc := 33) C (nI 34) 1251 dL_law_33 rfl (by decide) (by decide) (off := 1218) (by decide) (by decide) (lc_restore C X hcs hi h kont)
    · exact k_tabIn (pc := 33) C (nI 35) 1264 dL_law_33 rfl (by decide) (by decide) (off := 1231) (by decide) (by decide) (lc_status C X hcs hi h kont)
theorem lp_all (C : k_Cx p s m args meth c D cy ad bs k_KS (Mt_L nm)) (X : k_LX s ad bs b n xs) (hcs : cells ≤ room_1.cells ∧ slots ≤ room_1.slots) (fin : ∀ mi ml i, k_V p l e room_1 s m args below meth c D cy ad bs k_KS k_R0 cells slots Q mi ml 1293 (k_Lc i) []) : ∀ u i mi ml, n ≤ i + u → i ≤ n → k_J mi ml → k_V p l e room_1 s m args below meth c D cy ad bs k_KS k_R0 cells slots Q mi ml 18 (k_Lc i) [] := by
  have hn := X.2.2.2.2
  intro u
  induction u with
  | zero =>
    intro i mi ml hu hi J
    refine k_iload_n (pc := 18) C dL_law_18 rfl ?_
    refine k_aload_n (pc := 19) C dL_law_19 rfl ?_
    refine k_slen (pc := 20) C X dL_law_20 ?_
    refine k_bipush (pc := 21) (v := 6) C dL_law_21 (by decide) ?_
    refine k_isub (pc := 23) C dL_law_23 ?_
    refine k_icmp_gtT (pc := 24) C 1293 dL_law_24 (by decide) ((lp_out hi hn).mpr (by omega)) ?_
    exact fin _ _ _
  | succ u ih =>
    intro i mi ml hu hi J
    refine k_iload_n (pc := 18) C dL_law_18 rfl ?_
    refine k_aload_n (pc := 19) C dL_law_19 rfl ?_
    refine k_slen (pc := 20) C X dL_law_20 ?_
    refine k_bipush (pc := 21) (v := 6) C dL_law_21 (by decide) ?_
    refine k_isub (pc := 23) C dL_law_23 ?_
    refine k_icmp_gt (pc := 24) C 1293 dL_law_24 (by decide) (fun _ => fin _ _ _) (fun z => ?_)
    have h6 : ¬ n < i + 6 := fun y => z ((lp_out hi hn).mpr y)
    refine lp_body C X hcs (by omega) J (fun mi' ml' J' => ?_)
    refine k_iinc_3 (pc := 1287) (v := nI (i + 6)) C dL_law_1287 ?_ rfl ?_
    · exact nI_add i 6
    refine k_goto (pc := 1290) C 18 dL_law_1290 (by decide) ?_
    exact ih (i + 6) mi' ml' (by omega) (by omega) J'
end LO
