/-! the texts of wordAt: their length and letters, by the JDK's own methods -/
abbrev Mt_length_J : k_M := (yJ0_length_8abf5, cJ0_length_8abf5, 1, (some .int))
theorem cb_length_J : k_cb Mt_length_J 0 := ⟨k_inWS 523 (by decide +kernel) (by decide), k_inWS 11 (by decide +kernel) (by decide), ⟨by decide +kernel, by decide +kernel⟩, by decide +kernel, by decide⟩
abbrev Mt_charAt_J : k_M := (yJ0_charAt_5068e, cJ0_charAt_5068e, 2, (some .char))
theorem cb_charAt_J : k_cb Mt_charAt_J 1 := ⟨k_inWS 537 (by decide +kernel) (by decide), k_inWS 11 (by decide +kernel) (by decide), ⟨by decide +kernel, by decide +kernel⟩, by decide +kernel, by decide⟩
abbrev Mt_coder_J : k_M := (yJ0_coder_7d493, cJ0_coder_7d493, 1, (some .byte))
theorem cb_coder_J : k_cb Mt_coder_J 0 := ⟨k_inWS 527 (by decide +kernel) (by decide), k_inWS 11 (by decide +kernel) (by decide), ⟨by decide +kernel, by decide +kernel⟩, by decide +kernel, by decide⟩
abbrev Mt_isLatin1_J : k_M := (yJ0_isLatin1_aae02, cJ0_isLatin1_aae02, 1, (some .boolean))
theorem cb_isLatin1_J : k_cb Mt_isLatin1_J 0 := ⟨k_inWS 541 (by decide +kernel) (by decide), k_inWS 11 (by decide +kernel) (by decide), ⟨by decide +kernel, by decide +kernel⟩, by decide +kernel, by decide⟩
abbrev Mt_checkIndex_J : k_M := (yJ0_checkIndex_df160, cJ0_checkIndex_df160, 2, none)
theorem cb_checkIndex_J : k_cb Mt_checkIndex_J 2 := ⟨k_inWS 547 (by decide +kernel) (by decide), k_inWS 11 (by decide +kernel) (by decide), ⟨by decide +kernel, by decide +kernel⟩, by decide +kernel, by decide⟩
abbrev Mt_charAtL_J : k_M := (yJ1_charAt_3b067, cJ1_charAt_3b067, 2, (some .char))
theorem cb_charAtL_J : k_cb Mt_charAtL_J 2 := ⟨k_inWS 544 (by decide +kernel) (by decide), k_inWS 12 (by decide +kernel) (by decide), ⟨by decide +kernel, by decide +kernel⟩, by decide +kernel, by decide⟩
abbrev Mt_preCheck_J : k_M := (yJ3_checkIndex_8e157, cJ3_checkIndex_8e157, 3, (some .int))
theorem cb_preCheck_J : k_cb Mt_preCheck_J 3 := ⟨k_inWS 552 (by decide +kernel) (by decide), k_inWS 13 (by decide +kernel) (by decide), ⟨by decide +kernel, by decide +kernel⟩, by decide +kernel, by decide⟩
theorem ci_length_J : Cond.instanceMethod Mt_length_J.1 ∈ k_WS := k_inWS 521 (by decide +kernel) (by decide)
theorem ce_length_J : Cond.selects Mt_length_J.1.cls Mt_length_J.1 Mt_length_J.1 ∈ k_WS := k_inWS 522 (by decide +kernel) (by decide)
theorem ci_charAt_J : Cond.instanceMethod Mt_charAt_J.1 ∈ k_WS := k_inWS 535 (by decide +kernel) (by decide)
theorem ce_charAt_J : Cond.selects Mt_charAt_J.1.cls Mt_charAt_J.1 Mt_charAt_J.1 ∈ k_WS := k_inWS 536 (by decide +kernel) (by decide)
theorem ci_coder_J : Cond.instanceMethod Mt_coder_J.1 ∈ k_WS := k_inWS 525 (by decide +kernel) (by decide)
theorem ce_coder_J : Cond.selects Mt_coder_J.1.cls Mt_coder_J.1 Mt_coder_J.1 ∈ k_WS := k_inWS 526 (by decide +kernel) (by decide)
theorem ci_isLatin1_J : Cond.instanceMethod Mt_isLatin1_J.1 ∈ k_WS := k_inWS 539 (by decide +kernel) (by decide)
theorem ce_isLatin1_J : Cond.selects Mt_isLatin1_J.1.cls Mt_isLatin1_J.1 Mt_isLatin1_J.1 ∈ k_WS := k_inWS 540 (by decide +kernel) (by decide)
theorem ct0_checkIndex_J : Cond.static Mt_checkIndex_J.1 ∈ k_WS := k_inWS 546 (by decide +kernel) (by decide)
theorem ct0_charAtL_J : Cond.static Mt_charAtL_J.1 ∈ k_WS := k_inWS 543 (by decide +kernel) (by decide)
theorem ct0_preCheck_J : Cond.static Mt_preCheck_J.1 ∈ k_WS := k_inWS 551 (by decide +kernel) (by decide)
theorem cl_J0_335 : k_ln2 RJ0 335 Mt_coder_J := Or.inl (k_inWS 524 (by decide +kernel) (by decide))
theorem cl_J0_335m : Cond.methodLink RJ0 335 Mt_coder_J.1 ∈ k_WS := k_inWS 524 (by decide +kernel) (by decide)
theorem cl_J0_492 : k_ln2 RJ0 492 Mt_isLatin1_J := Or.inl (k_inWS 538 (by decide +kernel) (by decide))
theorem cl_J0_492m : Cond.methodLink RJ0 492 Mt_isLatin1_J.1 ∈ k_WS := k_inWS 538 (by decide +kernel) (by decide)
theorem cl_J0_495 : k_ln2 RJ0 495 Mt_charAtL_J := Or.inl (k_inWS 542 (by decide +kernel) (by decide))
theorem cl_J0_495m : Cond.methodLink RJ0 495 Mt_charAtL_J.1 ∈ k_WS := k_inWS 542 (by decide +kernel) (by decide)
theorem cl_J1_9 : k_ln2 RJ1 9 Mt_checkIndex_J := Or.inl (k_inWS 545 (by decide +kernel) (by decide))
theorem cl_J0_1059 : k_ln2 RJ0 1059 Mt_preCheck_J := Or.inl (k_inWS 550 (by decide +kernel) (by decide))
theorem cl_J0_1059m : Cond.methodLink RJ0 1059 Mt_preCheck_J.1 ∈ k_WS := k_inWS 550 (by decide +kernel) (by decide)
theorem cl_X4_114 : k_ln2 RX4 114 Mt_length_J := Or.inl (k_inWS 520 (by decide +kernel) (by decide))
theorem cl_X4_114m : Cond.methodLink RX4 114 Mt_length_J.1 ∈ k_WS := k_inWS 520 (by decide +kernel) (by decide)
theorem cl_X4_137 : k_ln2 RX4 137 Mt_charAt_J := Or.inl (k_inWS 534 (by decide +kernel) (by decide))
theorem cl_X4_137m : Cond.methodLink RX4 137 Mt_charAt_J.1 ∈ k_WS := k_inWS 534 (by decide +kernel) (by decide)
theorem cs_J0_495 : k_CS RJ0 495 Mt_charAtL_J 2 := ⟨cb_charAtL_J, cl_J0_495, ct0_charAtL_J⟩
theorem cs_J1_9 : k_CS RJ1 9 Mt_checkIndex_J 2 := ⟨cb_checkIndex_J, cl_J1_9, ct0_checkIndex_J⟩
theorem cs_J0_1059 : k_CS RJ0 1059 Mt_preCheck_J 3 := ⟨cb_preCheck_J, cl_J0_1059, ct0_preCheck_J⟩
theorem cj_fv : Cond.fieldLink RJ0 9 "java/lang/String" "value" "[B" ∈ k_WS := k_inWS 1375 (by decide +kernel) (by decide)
theorem cj_fc : Cond.fieldLink RJ0 15 "java/lang/String" "coder" "B" ∈ k_WS := k_inWS 1376 (by decide +kernel) (by decide)
theorem cj_fs : Cond.fieldLink RJ0 38 "java/lang/String" "COMPACT_STRINGS" "Z" ∈ k_WS := k_inWS 528 (by decide +kernel) (by decide)
theorem cj_fp : Cond.fieldLink RJ0 1053 "jdk/internal/util/Preconditions" "SIOOBE_FORMATTER" "Ljava/util/function/BiFunction;" ∈ k_WS := k_inWS 548 (by decide +kernel) (by decide)
section KJ
variable {p : Program} {l : Launch} {e : Env} {R : Room} {s : State} {m : MethodId} {args : Array Value} {below : List Frame} {meth : Method} {c : Code} {D : va_G} {cy : Nat → ClassId} {ad : Ky → Nat} {bs : Nat} {ks : List Ky} {mr : MemR} {cells slots : Nat} {Q : State → Prop} {mi : MemI} {ml : MemL} {pc : Nat} {L st : List MV} {M : k_M} {P : Option MV → MemI → MemL → Prop}
theorem k_tval (C : k_Cx p s m args meth c D cy ad bs ks M) {w : Nat} (hw : w < 6) {idx : Nat} (hlw : Cond.fieldLink M.1.cls idx "java/lang/String" "value" "[B" ∈ k_WS) (d : decode M.2.1 pc = .ok (.getfield idx, 3)) (k : k_V p l e R s m args below meth c D cy ad bs ks mr cells slots Q mi ml (pc + 3) (L) (vR (15, w, 0) :: st)) : k_V p l e R s m args below meth c D cy ad bs ks mr cells slots Q mi ml (pc) (L) (vR (14, w, 0) :: st) := by
  obtain ⟨⟨hx, hb, hml, hown, hts⟩, hF, hr, hlk, hnm⟩ := C
  obtain ⟨hbs, hK, hNW, hok, ⟨hZ1, hT1, hZ2, hT2, hS6, hCS, hFm⟩, hRs, hAO⟩ := id hF
  intro H locs ls hP hS hl
  exact vk_getf hx hb (hS6.1 w hw).2.2.1 hS hown (hts _ hlw) (fun _ h => h) d (k H locs ls hP hS hl)
theorem k_tcod (C : k_Cx p s m args meth c D cy ad bs ks M) {w : Nat} (hw : w < 6) {idx : Nat} (hlw : Cond.fieldLink M.1.cls idx "java/lang/String" "coder" "B" ∈ k_WS) (d : decode M.2.1 pc = .ok (.getfield idx, 3)) (k : k_V p l e R s m args below meth c D cy ad bs ks mr cells slots Q mi ml (pc + 3) (L) (vI 0 :: st)) : k_V p l e R s m args below meth c D cy ad bs ks mr cells slots Q mi ml (pc) (L) (vR (14, w, 0) :: st) := by
  obtain ⟨⟨hx, hb, hml, hown, hts⟩, hF, hr, hlk, hnm⟩ := C
  obtain ⟨hbs, hK, hNW, hok, ⟨hZ1, hT1, hZ2, hT2, hS6, hCS, hFm⟩, hRs, hAO⟩ := id hF
  intro H locs ls hP hS hl
  exact vk_getf hx hb (hS6.1 w hw).2.1 hS hown (hts _ hlw) (fun _ h => h) d (k H locs ls hP hS hl)
theorem k_tcomp (C : k_Cx p s m args meth c D cy ad bs ks M) {idx : Nat} (hlw : Cond.fieldLink M.1.cls idx "java/lang/String" "COMPACT_STRINGS" "Z" ∈ k_WS) (d : decode M.2.1 pc = .ok (.getstatic idx, 3)) (k : k_V p l e R s m args below meth c D cy ad bs ks mr cells slots Q mi ml (pc + 3) (L) (vI 1 :: st)) : k_V p l e R s m args below meth c D cy ad bs ks mr cells slots Q mi ml (pc) (L) (st) := by
  obtain ⟨⟨hx, hb, hml, hown, hts⟩, hF, hr, hlk, hnm⟩ := C
  obtain ⟨hbs, hK, hNW, hok, ⟨hZ1, hT1, hZ2, hT2, hS6, hCS, hFm⟩, hRs, hAO⟩ := id hF
  intro H locs ls hP hS hl
  exact va_gets hx hb hCS hS hown (hts _ hlw) (fun _ h => h) d (k H locs ls hP hS hl)
theorem k_tform (C : k_Cx p s m args meth c D cy ad bs ks M) {idx : Nat} (hlw : Cond.fieldLink M.1.cls idx "jdk/internal/util/Preconditions" "SIOOBE_FORMATTER" "Ljava/util/function/BiFunction;" ∈ k_WS) (d : decode M.2.1 pc = .ok (.getstatic idx, 3)) (k : ∀ r : Option Ky, k_V p l e R s m args below meth c D cy ad bs ks mr cells slots Q mi ml (pc + 3) (L) (vQ r :: st)) : k_V p l e R s m args below meth c D cy ad bs ks mr cells slots Q mi ml (pc) (L) (st) := by
  obtain ⟨⟨hx, hb, hml, hown, hts⟩, hF, hr, hlk, hnm⟩ := C
  obtain ⟨hbs, hK, hNW, hok, ⟨hZ1, hT1, hZ2, hT2, hS6, hCS, hFm⟩, hRs, hAO⟩ := id hF
  intro H locs ls hP hS hl
  rcases hFm with h | h
  · exact va_gets hx hb h hS hown (hts _ hlw) (fun _ h => h) d (k none H locs ls hP hS hl)
  · exact va_gets hx hb h hS hown (hts _ hlw) (fun _ h => h) d (k (some (16, 0, 0)) H locs ls hP hS hl)
theorem k_tlen (C : k_Cx p s m args meth c D cy ad bs ks M) {w : Nat} (hw : w < 6) {v : Int32} (hv : Int32.ofNat (k_len.getD w 0) = v) (d : decode M.2.1 pc = .ok (.arraylength, 1)) (k : k_V p l e R s m args below meth c D cy ad bs ks mr cells slots Q mi ml (pc + 1) (L) (vI v :: st)) : k_V p l e R s m args below meth c D cy ad bs ks mr cells slots Q mi ml (pc) (L) (vR (15, w, 0) :: st) := by
  obtain ⟨⟨hx, hb, hml, hown, hts⟩, hF, hr, hlk, hnm⟩ := C
  obtain ⟨hbs, hK, hNW, hok, ⟨hZ1, hT1, hZ2, hT2, hS6, hCS, hFm⟩, hRs, hAO⟩ := id hF
  intro H locs ls hP hS hl
  exact va_tlen hx hb (hS6.1 w hw).2.2.2 hS hv d (k H locs ls hP hS hl)
theorem k_tbald (C : k_Cx p s m args meth c D cy ad bs ks M) {w : Nat} (hw : w < 6) {i : Int32} (hin : vp_in i (k_len.getD w 0)) (d : decode M.2.1 pc = .ok (.baload, 1)) (k : k_V p l e R s m args below meth c D cy ad bs ks mr cells slots Q mi ml (pc + 1) (L) (vI ((k_byt.getD w []).getD i.toNatClampNeg 0) :: st)) : k_V p l e R s m args below meth c D cy ad bs ks mr cells slots Q mi ml (pc) (L) (vI i :: vR (15, w, 0) :: st) := by
  obtain ⟨⟨hx, hb, hml, hown, hts⟩, hF, hr, hlk, hnm⟩ := C
  obtain ⟨hbs, hK, hNW, hok, ⟨hZ1, hT1, hZ2, hT2, hS6, hCS, hFm⟩, hRs, hAO⟩ := id hF
  intro H locs ls hP hS hl
  exact va_tb hx hb (hS6.1 w hw).2.2.2 hS hin rfl d (k H locs ls hP hS hl)
theorem k_ishr (C : k_Cx p s m args meth c D cy ad bs ks M) {x y : Int32} (d : decode M.2.1 pc = .ok (.ishr, 1)) (k : k_V p l e R s m args below meth c D cy ad bs ks mr cells slots Q mi ml (pc + 1) (L) (vI (x >>> (y &&& 31)) :: st)) : k_V p l e R s m args below meth c D cy ad bs ks mr cells slots Q mi ml (pc) (L) (vI y :: vI x :: st) := by
  obtain ⟨⟨hx, hb, hml, hown, hts⟩, hF, hr, hlk, hnm⟩ := C
  obtain ⟨hbs, hK, hNW, hok, ⟨hZ1, hT1, hZ2, hT2, hS6, hCS, hFm⟩, hRs, hAO⟩ := id hF
  intro H locs ls hP hS hl
  exact lv_ishr hx hb d (k H locs ls hP hS hl)
theorem k_i2c (C : k_Cx p s m args meth c D cy ad bs ks M) {x : Int32} (d : decode M.2.1 pc = .ok (.i2c, 1)) (k : k_V p l e R s m args below meth c D cy ad bs ks mr cells slots Q mi ml (pc + 1) (L) (vI (x.toUInt32 % 65536).toInt32 :: st)) : k_V p l e R s m args below meth c D cy ad bs ks mr cells slots Q mi ml (pc) (L) (vI x :: st) := by
  obtain ⟨⟨hx, hb, hml, hown, hts⟩, hF, hr, hlk, hnm⟩ := C
  obtain ⟨hbs, hK, hNW, hok, ⟨hZ1, hT1, hZ2, hT2, hS6, hCS, hFm⟩, hRs, hAO⟩ := id hF
  intro H locs ls hP hS hl
  exact lv_i2c hx hb d rfl (k H locs ls hP hS hl)
theorem k_ldcS (C : k_Cx p s m args meth c D cy ad bs ks M) {w idx : Nat} {tx : String} (hw : k_tx[w]? = some (idx, tx)) (hM : M.1.cls = RX4) (d : decode M.2.1 pc = .ok (.ldc idx, 2)) (k : k_V p l e R s m args below meth c D cy ad bs ks mr cells slots Q mi ml (pc + 2) (L) (vR (14, w, 0) :: st)) : k_V p l e R s m args below meth c D cy ad bs ks mr cells slots Q mi ml (pc) (L) (st) := by
  obtain ⟨⟨hx, hb, hml, hown, hts⟩, hF, hr, hlk, hnm⟩ := C
  obtain ⟨hbs, hK, hNW, hok, ⟨hZ1, hT1, hZ2, hT2, hS6, hCS, hFm⟩, hRs, hAO⟩ := id hF
  intro H locs ls hP hS hl
  exact va_ldcS hx hb hown (hM ▸ hRs w (idx, tx) hw) d (k H locs ls hP hS hl)
theorem k_nret (C : k_Cx p s m args meth c D cy ad bs ks M) {rt : FieldType} (hret : M.2.2.2 = some rt) {x : Int32} (hn : narrow rt (.int x) = .int x) (hp : P (some (vI x)) mi ml) (d : decode M.2.1 pc = .ok (.ireturn, 1)) : k_V p l e R s m args below meth c D cy ad bs ks mr 0 0 (k_End below D cy ad bs ks mr P args s) mi ml (pc) (L) ([vI x]) := by
  obtain ⟨⟨hx, hb, hml, hown, hts⟩, hF, hr, hlk, hnm⟩ := C
  obtain ⟨hbs, hK, hNW, hok, ⟨hZ1, hT1, hZ2, hT2, hS6, hCS, hFm⟩, hRs, hAO⟩ := id hF
  intro H locs ls hP hS hl
  exact W.zret (v := x) hx hb (hr.trans hret) hn (fun t ht hW => ⟨⟨some (vI x), mi, ml, rfl, hp, by rw [ht]; exact hP⟩, hS.F ht⟩) hS.2.2 d hlk
theorem k_callT0 (C : k_Cx p s m args meth c D cy ad bs ks M) {nf nf' idx w : Nat} {M' : k_M} {rest : List MV} {v : MV} {mi1 : MemI} {ml1 : MemL} (hcb : k_cb M' 0) (hln : Cond.methodLink M.1.cls idx M'.1 ∈ k_WS) (hin : Cond.instanceMethod M'.1 ∈ k_WS) (hse : Cond.selects M'.1.cls M'.1 M'.1 ∈ k_WS) (hcl : M'.1.cls = "java/lang/String") (hC : k_Ct ks mr M' nf' [vR (14, w, 0)] mi ml (k_rt (some v) mi1 ml1)) (hw : w < 6) (hnf : nf' < nf) (hL : L.length = M.2.2.1) (hrest : rest.length ≤ 4) (d : decode M.2.1 pc = .ok (.invokevirtual idx, 3)) (k : k_V p l e (k_rm nf) s m args below meth c D cy ad bs ks mr 0 0 Q mi1 ml1 (pc + 3) (L) (v :: rest)) : k_V p l e (k_rm nf) s m args below meth c D cy ad bs ks mr 0 0 Q mi ml (pc) (L) (vR (14, w, 0) :: rest) := by
  obtain ⟨⟨hx, hb, hml, hown, hts⟩, hF, hr, hlk, hnm⟩ := C
  obtain ⟨hbs, hK, hNW, hok, ⟨hZ1, hT1, hZ2, hT2, hS6, hCS, hFm⟩, hRs, hAO⟩ := id hF
  intro H locs ls hP hS hl
  have hrecv := vk_recv hS6 hw hS
  rw [← hcl] at hrecv
  have hPre : PreV s H M'.1.cls (ad (14, w, 0)) (k_Pc D cy ad bs ks mr mi ml [vR (14, w, 0)]) ([].map (k_enc ad)) := ⟨k_Pc_blind, hrecv, fun U hU hW => ⟨rfl, by rw [hU]; exact hP, by rw [hU]; exact hF.warm hW hS.1 hS.2.1⟩⟩
  have hsum : 2 * (F0 m pc ls ((vR (14, w, 0) :: rest).map (k_enc ad))).monitorRoom + ((rest.map (k_enc ad)).map fun v => v.category).sum ≤ 8 := lv_room (Nat.le_trans (k_catsum ad rest) (by omega))
  have hstk : (vR (14, w, 0) :: rest).map (k_enc ad) = ([].map (k_enc ad)).reverse ++ .ref (ad (14, w, 0)) :: rest.map (k_enc ad) := rfl
  have hcb2 := id hcb
  obtain ⟨h1, h2, h3, h4, h5⟩ := hcb
  refine k_afterRun (va_runV (nL := M.2.2.1) (Ts := k_WS) (own := M.1.cls) ⟨hx, hb, hml, hown, hts⟩ (hC l D cy ad bs) ⟨callB_of 0 hts (k_wmG M' 0 hcb2) rfl rfl rfl (hts _ h2) (hts _ hln) ⟨h3.1, h3.2, h4⟩ (k_rmle hnf h5), hts _ hin, hts _ hse⟩ hPre rfl rfl (hl.1.trans hL) hstk hsum d ⟨Nat.zero_le _, Nat.zero_le _⟩) hS hl (fun r mi' ml' h => ?_)
  obtain ⟨rfl, rfl, rfl⟩ := h
  exact k
theorem k_callT1 (C : k_Cx p s m args meth c D cy ad bs ks M) {nf nf' idx w : Nat} {M' : k_M} {a1 : MV} {rest : List MV} {v : MV} {mi1 : MemI} {ml1 : MemL} (hcb : k_cb M' 1) (hln : Cond.methodLink M.1.cls idx M'.1 ∈ k_WS) (hin : Cond.instanceMethod M'.1 ∈ k_WS) (hse : Cond.selects M'.1.cls M'.1 M'.1 ∈ k_WS) (hcl : M'.1.cls = "java/lang/String") (hC : k_Ct ks mr M' nf' [vR (14, w, 0), a1] mi ml (k_rt (some v) mi1 ml1)) (hw : w < 6) (hnf : nf' < nf) (hL : L.length = M.2.2.1) (hrest : rest.length ≤ 4) (d : decode M.2.1 pc = .ok (.invokevirtual idx, 3)) (k : k_V p l e (k_rm nf) s m args below meth c D cy ad bs ks mr 0 0 Q mi1 ml1 (pc + 3) (L) (v :: rest)) : k_V p l e (k_rm nf) s m args below meth c D cy ad bs ks mr 0 0 Q mi ml (pc) (L) (a1 :: vR (14, w, 0) :: rest) := by
  obtain ⟨⟨hx, hb, hml, hown, hts⟩, hF, hr, hlk, hnm⟩ := C
  obtain ⟨hbs, hK, hNW, hok, ⟨hZ1, hT1, hZ2, hT2, hS6, hCS, hFm⟩, hRs, hAO⟩ := id hF
  intro H locs ls hP hS hl
  have hrecv := vk_recv hS6 hw hS
  rw [← hcl] at hrecv
  have hPre : PreV s H M'.1.cls (ad (14, w, 0)) (k_Pc D cy ad bs ks mr mi ml [vR (14, w, 0), a1]) ([a1].map (k_enc ad)) := ⟨k_Pc_blind, hrecv, fun U hU hW => ⟨rfl, by rw [hU]; exact hP, by rw [hU]; exact hF.warm hW hS.1 hS.2.1⟩⟩
  have hsum : 2 * (F0 m pc ls ((a1 :: vR (14, w, 0) :: rest).map (k_enc ad))).monitorRoom + ((rest.map (k_enc ad)).map fun v => v.category).sum ≤ 8 := lv_room (Nat.le_trans (k_catsum ad rest) (by omega))
  have hstk : (a1 :: vR (14, w, 0) :: rest).map (k_enc ad) = ([a1].map (k_enc ad)).reverse ++ .ref (ad (14, w, 0)) :: rest.map (k_enc ad) := rfl
  have hcb2 := id hcb
  obtain ⟨h1, h2, h3, h4, h5⟩ := hcb
  refine k_afterRun (va_runV (nL := M.2.2.1) (Ts := k_WS) (own := M.1.cls) ⟨hx, hb, hml, hown, hts⟩ (hC l D cy ad bs) ⟨callB_of 1 hts (k_wmG M' 1 hcb2) rfl rfl rfl (hts _ h2) (hts _ hln) ⟨h3.1, h3.2, h4⟩ (k_rmle hnf h5), hts _ hin, hts _ hse⟩ hPre rfl rfl (hl.1.trans hL) hstk hsum d ⟨Nat.zero_le _, Nat.zero_le _⟩) hS hl (fun r mi' ml' h => ?_)
  obtain ⟨rfl, rfl, rfl⟩ := h
  exact k
end KJ
set_option maxRecDepth 100000 in
set_option maxHeartbeats 4000000 in
theorem ct_coder_J {mi : MemI} {ml : MemL} {w : Nat} (hw : w < 6) : k_Ct k_KS k_R0 Mt_coder_J 0 [vR (14, w, 0)] mi ml (k_rt (some (vI 0)) mi ml) := by
  refine k_ofV (L0 := [vR (14, w, 0)]) (by decide +kernel) (Nat.le_of_ble_eq_true rfl) rfl rfl ?_
  intro p l e s m args below meth c D cy ad bs C
  refine k_tcomp (pc := 0) C cj_fs dJ0_coder_7d493_0 ?_
  refine k_if_eqF (pc := 3) C 13 dJ0_coder_7d493_3 (by decide) (by decide) ?_
  refine k_aload_n (pc := 6) C dJ0_coder_7d493_6 rfl ?_
  refine k_tcod (pc := 7) C hw cj_fc dJ0_coder_7d493_7 ?_
  refine k_goto (pc := 10) C 14 dJ0_coder_7d493_10 (by decide) ?_
  exact k_nret (pc := 14) C rfl (by decide) k_rt_rf dJ0_coder_7d493_14
set_option maxRecDepth 100000 in
set_option maxHeartbeats 4000000 in
theorem ct_isLatin1_J {mi : MemI} {ml : MemL} {w : Nat} (hw : w < 6) : k_Ct k_KS k_R0 Mt_isLatin1_J 0 [vR (14, w, 0)] mi ml (k_rt (some (vI 1)) mi ml) := by
  refine k_ofV (L0 := [vR (14, w, 0)]) (by decide +kernel) (Nat.le_of_ble_eq_true rfl) rfl rfl ?_
  intro p l e s m args below meth c D cy ad bs C
  refine k_tcomp (pc := 0) C cj_fs dJ0_isLatin1_aae02_0 ?_
  refine k_if_eqF (pc := 3) C 17 dJ0_isLatin1_aae02_3 (by decide) (by decide) ?_
  refine k_aload_n (pc := 6) C dJ0_isLatin1_aae02_6 rfl ?_
  refine k_tcod (pc := 7) C hw cj_fc dJ0_isLatin1_aae02_7 ?_
  refine k_if_neF (pc := 10) C 17 dJ0_isLatin1_aae02_10 (by decide) (by decide) ?_
  refine k_iconst (pc := 13) (v := 1) C dJ0_isLatin1_aae02_13 (by decide) ?_
  refine k_goto (pc := 14) C 18 dJ0_isLatin1_aae02_14 (by decide) ?_
  exact k_nret (pc := 18) C rfl (by decide) k_rt_rf dJ0_isLatin1_aae02_18
set_option maxRecDepth 100000 in
set_option maxHeartbeats 4000000 in
theorem ct_length_J {mi : MemI} {ml : MemL} {w : Nat} (hw : w < 6) : k_Ct k_KS k_R0 Mt_length_J 1 [vR (14, w, 0)] mi ml (k_rt (some (vI (Int32.ofNat (k_len.getD w 0)))) mi ml) := by
  refine k_ofV (L0 := [vR (14, w, 0)]) (by decide +kernel) (Nat.le_of_ble_eq_true rfl) rfl rfl ?_
  intro p l e s m args below meth c D cy ad bs C
  refine k_aload_n (pc := 0) C dJ0_length_8abf5_0 rfl ?_
  refine k_tval (pc := 1) C hw cj_fv dJ0_length_8abf5_1 ?_
  refine k_tlen (pc := 4) C hw rfl dJ0_length_8abf5_4 ?_
  refine k_aload_n (pc := 5) C dJ0_length_8abf5_5 rfl ?_
  refine k_callT0 (pc := 6) C cb_coder_J cl_J0_335m ci_coder_J ce_coder_J rfl (ct_coder_J hw) hw (by decide) rfl (Nat.le_of_ble_eq_true rfl) dJ0_length_8abf5_6 ?_
  refine k_ishr (pc := 9) C dJ0_length_8abf5_9 ?_
  refine k_iret (pc := 10) C rfl (k_fI ?_) dJ0_length_8abf5_10
  match w, hw with
  | 0, _ => decide
  | 1, _ => decide
  | 2, _ => decide
  | 3, _ => decide
  | 4, _ => decide
  | 5, _ => decide
set_option maxRecDepth 100000 in
set_option maxHeartbeats 4000000 in
theorem ct_preCheck_J {mi : MemI} {ml : MemL} {x n : Int32} {r : Option Ky} (h0 : ¬ x < 0) (h1 : x < n) : k_Ct k_KS k_R0 Mt_preCheck_J 0 [vI x, vI n, vQ r] mi ml (k_rt (some (vI x)) mi ml) := by
  refine k_ofV (L0 := [vI x, vI n, vQ r]) (by decide +kernel) (Nat.le_of_ble_eq_true rfl) rfl rfl ?_
  intro p l e s m args below meth c D cy ad bs C
  refine k_iload_n (pc := 0) C dJ3_checkIndex_8e157_0 rfl ?_
  refine k_if_ltF (pc := 1) C 9 dJ3_checkIndex_8e157_1 (by decide) h0 ?_
  refine k_iload_n (pc := 4) C dJ3_checkIndex_8e157_4 rfl ?_
  refine k_iload_n (pc := 5) C dJ3_checkIndex_8e157_5 rfl ?_
  refine k_icmp_ltT (pc := 6) C 16 dJ3_checkIndex_8e157_6 (by decide) h1 ?_
  refine k_iload_n (pc := 16) C dJ3_checkIndex_8e157_16 rfl ?_
  exact k_iret (pc := 17) C rfl k_rt_rf dJ3_checkIndex_8e157_17
set_option maxRecDepth 100000 in
set_option maxHeartbeats 4000000 in
theorem ct_checkIndex_J {mi : MemI} {ml : MemL} {x n : Int32} (h0 : ¬ x < 0) (h1 : x < n) : k_Ct k_KS k_R0 Mt_checkIndex_J 1 [vI x, vI n] mi ml (k_rt none mi ml) := by
  refine k_ofV (L0 := [vI x, vI n]) (by decide +kernel) (Nat.le_of_ble_eq_true rfl) rfl rfl ?_
  intro p l e s m args below meth c D cy ad bs C
  refine k_iload_n (pc := 0) C dJ0_checkIndex_df160_0 rfl ?_
  refine k_iload_n (pc := 1) C dJ0_checkIndex_df160_1 rfl ?_
  refine k_tform (pc := 2) C cj_fp dJ0_checkIndex_df160_2 (fun r => ?_)
  refine k_calls3 (pc := 5) C cs_J0_1059 (ct_preCheck_J h0 h1) (by decide) rfl (Nat.le_of_ble_eq_true rfl) dJ0_checkIndex_df160_5 ?_
  refine k_pop (pc := 8) C dJ0_checkIndex_df160_8 rfl ?_
  exact k_vret (pc := 9) C rfl k_rt_rf dJ0_checkIndex_df160_9
set_option maxRecDepth 100000 in
set_option maxHeartbeats 4000000 in
theorem ct_charAtL_J {mi : MemI} {ml : MemL} {w : Nat} {x : Int32} (hw : w < 6) (h0 : ¬ x < 0) (h1 : x < Int32.ofNat (k_len.getD w 0)) (hin : vp_in x (k_len.getD w 0)) : k_Ct k_KS k_R0 Mt_charAtL_J 2 [vR (15, w, 0), vI x] mi ml (k_rt (some (vI ((((k_byt.getD w []).getD x.toNatClampNeg 0) &&& 255).toUInt32 % 65536).toInt32)) mi ml) := by
  refine k_ofV (L0 := [vR (15, w, 0), vI x]) (by decide +kernel) (Nat.le_of_ble_eq_true rfl) rfl rfl ?_
  intro p l e s m args below meth c D cy ad bs C
  refine k_iload_n (pc := 0) C dJ1_charAt_3b067_0 rfl ?_
  refine k_aload_n (pc := 1) C dJ1_charAt_3b067_1 rfl ?_
  refine k_tlen (pc := 2) C hw rfl dJ1_charAt_3b067_2 ?_
  refine k_callsv2 (pc := 3) C cs_J1_9 (ct_checkIndex_J h0 h1) (by decide) rfl (Nat.le_of_ble_eq_true rfl) dJ1_charAt_3b067_3 ?_
  refine k_aload_n (pc := 6) C dJ1_charAt_3b067_6 rfl ?_
  refine k_iload_n (pc := 7) C dJ1_charAt_3b067_7 rfl ?_
  refine k_tbald (pc := 8) C hw hin dJ1_charAt_3b067_8 ?_
  refine k_sipush (pc := 9) (v := 255) C dJ1_charAt_3b067_9 (by decide) ?_
  refine k_iand (pc := 12) C dJ1_charAt_3b067_12 ?_
  refine k_i2c (pc := 13) C dJ1_charAt_3b067_13 ?_
  exact k_nret (pc := 14) C rfl (pk_nc _) k_rt_rf dJ1_charAt_3b067_14
set_option maxRecDepth 100000 in
set_option maxHeartbeats 4000000 in
theorem ct_charAt_J {mi : MemI} {ml : MemL} {w : Nat} {x : Int32} (hw : w < 6) (h0 : ¬ x < 0) (h1 : x < Int32.ofNat (k_len.getD w 0)) (hin : vp_in x (k_len.getD w 0)) : k_Ct k_KS k_R0 Mt_charAt_J 3 [vR (14, w, 0), vI x] mi ml (k_rt (some (vI ((((k_byt.getD w []).getD x.toNatClampNeg 0) &&& 255).toUInt32 % 65536).toInt32)) mi ml) := by
  refine k_ofV (L0 := [vR (14, w, 0), vI x]) (by decide +kernel) (Nat.le_of_ble_eq_true rfl) rfl rfl ?_
  intro p l e s m args below meth c D cy ad bs C
  refine k_aload_n (pc := 0) C dJ0_charAt_5068e_0 rfl ?_
  refine k_callT0 (pc := 1) C cb_isLatin1_J cl_J0_492m ci_isLatin1_J ce_isLatin1_J rfl (ct_isLatin1_J hw) hw (by decide) rfl (Nat.le_of_ble_eq_true rfl) dJ0_charAt_5068e_1 ?_
  refine k_if_eqF (pc := 4) C 16 dJ0_charAt_5068e_4 (by decide) (by decide) ?_
  refine k_aload_n (pc := 7) C dJ0_charAt_5068e_7 rfl ?_
  refine k_tval (pc := 8) C hw cj_fv dJ0_charAt_5068e_8 ?_
  refine k_iload_n (pc := 11) C dJ0_charAt_5068e_11 rfl ?_
  refine k_calls2 (pc := 12) C cs_J0_495 (ct_charAtL_J hw h0 h1 hin) (by decide) rfl (Nat.le_of_ble_eq_true rfl) dJ0_charAt_5068e_12 ?_
  exact k_nret (pc := 15) C rfl (pk_nc _) k_rt_rf dJ0_charAt_5068e_15
