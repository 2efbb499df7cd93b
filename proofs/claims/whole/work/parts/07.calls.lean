/-! calls over 'k_V' -/
def k_cb (M : k_M) (n : Nat) : Prop := Cond.code M.1 M.2.1 M.2.2.1 M.2.2.2 ∈ k_WS ∧ Cond.initialized M.1.cls ∈ k_WS ∧ (M.1.cls ≠ "java/lang/invoke/MethodHandle" ∧ M.1.cls ≠ "java/lang/invoke/VarHandle") ∧ (parseMethodDescriptor M.1.desc).map (fun d => d.parameters.length) = some n ∧ M.2.2.1 ≤ 21
def k_ln2 (own : String) (idx : Nat) (M : k_M) : Prop := Cond.methodLink own idx M.1 ∈ k_WS ∨ ∃ host, Cond.methodLinkNest own idx M.1 host ∈ k_NW
/-- entry idx of own's pool is method M of class ci: an object's -/
def k_CV (own : String) (idx ci : Nat) (M : k_M) (n : Nat) : Prop := k_cb M n ∧ k_ln2 own idx M ∧ Cond.instanceMethod M.1 ∈ k_WS ∧ Cond.selects M.1.cls M.1 M.1 ∈ k_WS ∧ ∃ q : vw_C, ci < 8 ∧ vwCl[ci]? = some q ∧ q.1 = M.1.cls
/-- .. a static one -/
def k_CS (own : String) (idx : Nat) (M : k_M) (n : Nat) : Prop := k_cb M n ∧ k_ln2 own idx M ∧ Cond.static M.1 ∈ k_WS
theorem k_wmG (M : k_M) (n : Nat) (h : k_cb M n) : GoodIn k_WS (k_wm M) := by
  intro w hw
  rcases List.mem_cons.mp hw with rfl | hw
  · exact k_WSgood _ h.1
  · exact k_WSgood w hw
theorem k_Pc_blind {D : va_G} {cy : Nat → ClassId} {ad : Ky → Nat} {bs : Nat} {ks : List Ky} {mr : MemR} {mi : MemI} {ml : MemL} {as : List MV} : FrameBlind (k_Pc D cy ad bs ks mr mi ml as) :=
  fun a U g mk h => ⟨h.1, h.2.1, k_Fx.same (s := U) (U := U.calling g mk a) rfl h.2.2⟩
theorem k_catsum (ad : Ky → Nat) (rest : List MV) : ((rest.map (k_enc ad)).map fun v => v.category).sum ≤ 2 * rest.length := by
  induction rest with
  | nil => simp
  | cons v t ih =>
    simp only [List.map_cons, List.sum_cons, List.length_cons]
    rcases lv_cat (k_enc ad v) with h | h <;> omega
theorem k_rmle {nf nf' n : Nat} (h : nf' < nf) (h2 : n ≤ 21) : nf' + 1 ≤ (k_rm nf).frames ∧ 8 + (n + 11) + 40 * nf' ≤ (k_rm nf).locals := by
  show nf' + 1 ≤ nf ∧ 8 + (n + 11) + 40 * nf' ≤ 40 * nf
  omega
section KC
variable {p : Program} {l : Launch} {e : Env} {R : Room} {s : State} {m : MethodId} {args : Array Value} {below : List Frame} {meth : Method} {c : Code} {D : va_G} {cy : Nat → ClassId} {ad : Ky → Nat} {bs : Nat} {ks : List Ky} {mr : MemR} {cells slots : Nat} {Q : State → Prop} {mi : MemI} {ml : MemL} {pc : Nat} {L st : List MV} {M : k_M}
theorem k_afterRun {H : Heap} {locs : List Loc} {ls : Array Slot} {st0 : List Value} {rest : List MV} {a : Array Value} {P : Option MV → MemI → MemL → Prop} (hr : va_Run p l e R s m args below meth c H locs cells slots 0 0 (F0 m pc ls st0) (rest.map (k_enc ad)) (k_Qc D cy ad bs ks mr P a) (k_AB bs)) (hS : va_S (k_AB bs) s.heap H locs) (hl : k_LH ad ls L)
    (kk : ∀ (r : Option MV) (mi' : MemI) (ml' : MemL), P r mi' ml' → k_V p l e R s m args below meth c D cy ad bs ks mr cells slots Q mi' ml' (pc + 3) (L) (r.toList ++ rest)) : W p l e R s m args below meth c H locs cells slots Q (F0 m pc ls st0) := by
  intro T hT X
  obtain ⟨v, st₀, t, T', L1, h0, X', hL, e1, e2, ⟨⟨r, mi', ml', hv, hp, hP⟩, hz, hk⟩, st⟩ := hr T hT X
  cases hv
  rw [h0] at hz hk
  have hS2 : va_S (k_AB bs) s.heap T'.heap (locs ++ L1) := ⟨Nat.le_trans hS.1 (by rw [e1]; exact hz), fun q h1 h2 => by rw [e1, hk q (Nat.lt_of_lt_of_le h1 hS.1) h2]; exact hS.2.1 q h1 h2, fun q hq => by
      rcases List.mem_append.mp hq with h | h
      · exact hS.2.2 q h
      · exact hL q h⟩
  obtain ⟨t2, a1, b1⟩ := kk r mi' ml' hp T'.heap (locs ++ L1) ls (by rw [e1]; exact hP) hS2 hl T' rfl X'
  refine ⟨t2, st t2 ?_, b1⟩
  cases r <;> exact a1
theorem k_callVG (C : k_Cx p s m args meth c D cy ad bs ks M) {idx ci n nf' : Nat} {M' : k_M} {kk : Ky} {as rest : List MV} {P : Option MV → MemI → MemL → Prop} (w : k_CV M.1.cls idx ci M' n) (hC : k_Ct ks mr M' nf' (vR kk :: as) mi ml P) (hk : kk ∈ ks) (hc : kk.1 = ci) (hn : as.length = n) (hL : L.length = M.2.2.1) (hR : nf' + 1 ≤ R.frames ∧ 8 + (M'.2.2.1 + 11) + 40 * nf' ≤ R.locals) (hf : cells ≤ R.cells ∧ slots ≤ R.slots) (hst : st = as.reverse ++ vR kk :: rest) (hrest : rest.length ≤ 4) (d : decode M.2.1 pc = .ok (.invokevirtual idx, 3)) (kk2 : ∀ (r : Option MV) (mi' : MemI) (ml' : MemL), P r mi' ml' → k_V p l e R s m args below meth c D cy ad bs ks mr cells slots Q mi' ml' (pc + 3) (L) (r.toList ++ rest)) : k_V p l e R s m args below meth c D cy ad bs ks mr cells slots Q mi ml (pc) (L) (st) := by
  obtain ⟨⟨hx, hb, hml, hown, hts⟩, hF, hr, hlk, hnm⟩ := C
  obtain ⟨hbs, hK, hNW, hok, hSt, hRs, hAO⟩ := id hF
  intro H locs ls hP hS hl
  obtain ⟨hcb, hln, hin, hse, q, h8, hq, hq1⟩ := w
  obtain ⟨n0, hn0, hw⟩ := k_at (cy := cy) (ad := ad) (mr := mr) (mi := mi) (ml := ml) hk
  rw [k_cellO hc h8] at hw
  have hrecv := va_recv hK hP hq hw
  rw [hq1] at hrecv
  have hPre : PreV s H M'.1.cls (ad kk) (k_Pc D cy ad bs ks mr mi ml (vR kk :: as)) (as.map (k_enc ad)) := ⟨k_Pc_blind, hrecv, fun U hU hW => ⟨rfl, by rw [hU]; exact hP, by rw [hU]; exact hF.warm hW hS.1 hS.2.1⟩⟩
  have hsum : 2 * (F0 m pc ls (st.map (k_enc ad))).monitorRoom + ((rest.map (k_enc ad)).map fun v => v.category).sum ≤ 8 := lv_room (Nat.le_trans (k_catsum ad rest) (by omega))
  have hstk : st.map (k_enc ad) = (as.map (k_enc ad)).reverse ++ .ref (ad kk) :: rest.map (k_enc ad) := by rw [hst, List.map_append, List.map_reverse]; rfl
  have hcb2 := id hcb
  obtain ⟨h1, h2, h3, h4, h5⟩ := hcb
  rcases hln with hlw | ⟨host, hlw⟩
  · exact k_afterRun (va_runV (nL := M.2.2.1) (Ts := k_WS) (own := M.1.cls) ⟨hx, hb, hml, hown, hts⟩ (hC l D cy ad bs) ⟨callB_of n hts (k_wmG M' n hcb2) rfl rfl rfl (hts _ h2) (hts _ hlw) ⟨h3.1, h3.2, h4⟩ hR, hts _ hin, hts _ hse⟩ hPre rfl (by rw [List.length_map]; exact hn) (hl.1.trans hL) hstk hsum d hf) hS hl kk2
  · exact k_afterRun (va_runVN (nL := M.2.2.1) (Ts := k_WS) (own := M.1.cls) ⟨hx, hb, hml, hown, hts⟩ (hC l D cy ad bs) ⟨va_cnB n hts (k_wmG M' n hcb2) rfl rfl rfl (hNW _ hlw) (hts _ h2) ⟨h3.1, h3.2, h4⟩ hR, hts _ hin, hts _ hse⟩ hPre rfl (by rw [List.length_map]; exact hn) (hl.1.trans hL) hstk hsum d hf) hS hl kk2
theorem k_callSG (C : k_Cx p s m args meth c D cy ad bs ks M) {idx n nf' : Nat} {M' : k_M} {as rest : List MV} {P : Option MV → MemI → MemL → Prop} (w : k_CS M.1.cls idx M' n) (hC : k_Ct ks mr M' nf' as mi ml P) (hn : as.length = n) (hL : L.length = M.2.2.1) (hR : nf' + 1 ≤ R.frames ∧ 8 + (M'.2.2.1 + 11) + 40 * nf' ≤ R.locals) (hf : cells ≤ R.cells ∧ slots ≤ R.slots) (hst : st = as.reverse ++ rest) (hrest : rest.length ≤ 4) (d : decode M.2.1 pc = .ok (.invokestatic idx, 3)) (kk2 : ∀ (r : Option MV) (mi' : MemI) (ml' : MemL), P r mi' ml' → k_V p l e R s m args below meth c D cy ad bs ks mr cells slots Q mi' ml' (pc + 3) (L) (r.toList ++ rest)) : k_V p l e R s m args below meth c D cy ad bs ks mr cells slots Q mi ml (pc) (L) (st) := by
  obtain ⟨⟨hx, hb, hml, hown, hts⟩, hF, hr, hlk, hnm⟩ := C
  obtain ⟨hbs, hK, hNW, hok, hSt, hRs, hAO⟩ := id hF
  intro H locs ls hP hS hl
  obtain ⟨hcb, hln, hsta⟩ := w
  have hPre : PreS s H (k_Pc D cy ad bs ks mr mi ml as) (as.map (k_enc ad)) := ⟨k_Pc_blind, fun U hU hW => ⟨rfl, by rw [hU]; exact hP, by rw [hU]; exact hF.warm hW hS.1 hS.2.1⟩⟩
  have hsum : 2 * (F0 m pc ls (st.map (k_enc ad))).monitorRoom + ((rest.map (k_enc ad)).map fun v => v.category).sum ≤ 8 := lv_room (Nat.le_trans (k_catsum ad rest) (by omega))
  have hstk : st.map (k_enc ad) = (as.map (k_enc ad)).reverse ++ rest.map (k_enc ad) := by rw [hst, List.map_append, List.map_reverse]
  have hcb2 := id hcb
  obtain ⟨h1, h2, h3, h4, h5⟩ := hcb
  rcases hln with hlw | ⟨host, hlw⟩
  · exact k_afterRun (va_runS (nL := M.2.2.1) (Ts := k_WS) (own := M.1.cls) ⟨hx, hb, hml, hown, hts⟩ (hC l D cy ad bs) ⟨callB_of n hts (k_wmG M' n hcb2) rfl rfl rfl (hts _ h2) (hts _ hlw) ⟨h3.1, h3.2, h4⟩ hR, hts _ hsta⟩ hPre rfl (by rw [List.length_map]; exact hn) (hl.1.trans hL) hstk hsum d hf) hS hl kk2
  · exact k_afterRun (va_runSN (nL := M.2.2.1) (Ts := k_WS) (own := M.1.cls) ⟨hx, hb, hml, hown, hts⟩ (hC l D cy ad bs) ⟨va_cnB n hts (k_wmG M' n hcb2) rfl rfl rfl (hNW _ hlw) (hts _ h2) ⟨h3.1, h3.2, h4⟩ hR, hts _ hsta, trivial⟩ hPre rfl (by rw [List.length_map]; exact hn) (hl.1.trans hL) hstk hsum d hf) hS hl kk2
theorem k_call0 (C : k_Cx p s m args meth c D cy ad bs ks M) {nf nf' idx ci : Nat} {M' : k_M} {kk : Ky} {rest : List MV} {v : MV} {mi1 : MemI} {ml1 : MemL} (w : k_CV M.1.cls idx ci M' 0) (hC : k_Ct ks mr M' nf' [vR kk] mi ml (k_rt (some v) mi1 ml1)) (hk : kk ∈ ks) (hc : kk.1 = ci) (hnf : nf' < nf) (hL : L.length = M.2.2.1) (hrest : rest.length ≤ 4) (d : decode M.2.1 pc = .ok (.invokevirtual idx, 3)) (k : k_V p l e (k_rm nf) s m args below meth c D cy ad bs ks mr 0 0 Q mi1 ml1 (pc + 3) (L) (v :: rest)) : k_V p l e (k_rm nf) s m args below meth c D cy ad bs ks mr 0 0 Q mi ml (pc) (L) (vR kk :: rest) := by
  refine k_callVG C (as := []) w hC hk hc rfl hL (k_rmle hnf w.1.2.2.2.2) ⟨Nat.zero_le _, Nat.zero_le _⟩ rfl hrest d (fun r mi' ml' h => ?_)
  obtain ⟨rfl, rfl, rfl⟩ := h
  exact k
theorem k_calls0 (C : k_Cx p s m args meth c D cy ad bs ks M) {nf nf' idx : Nat} {M' : k_M} {rest : List MV} {v : MV} {mi1 : MemI} {ml1 : MemL} (w : k_CS M.1.cls idx M' 0) (hC : k_Ct ks mr M' nf' [] mi ml (k_rt (some v) mi1 ml1)) (hnf : nf' < nf) (hL : L.length = M.2.2.1) (hrest : rest.length ≤ 4) (d : decode M.2.1 pc = .ok (.invokestatic idx, 3)) (k : k_V p l e (k_rm nf) s m args below meth c D cy ad bs ks mr 0 0 Q mi1 ml1 (pc + 3) (L) (v :: rest)) : k_V p l e (k_rm nf) s m args below meth c D cy ad bs ks mr 0 0 Q mi ml (pc) (L) (rest) := by
  refine k_callSG C (as := []) w hC rfl hL (k_rmle hnf w.1.2.2.2.2) ⟨Nat.zero_le _, Nat.zero_le _⟩ rfl hrest d (fun r mi' ml' h => ?_)
  obtain ⟨rfl, rfl, rfl⟩ := h
  exact k
theorem k_callv0 (C : k_Cx p s m args meth c D cy ad bs ks M) {nf nf' idx ci : Nat} {M' : k_M} {kk : Ky} {rest : List MV} {mi1 : MemI} {ml1 : MemL} (w : k_CV M.1.cls idx ci M' 0) (hC : k_Ct ks mr M' nf' [vR kk] mi ml (k_rt none mi1 ml1)) (hk : kk ∈ ks) (hc : kk.1 = ci) (hnf : nf' < nf) (hL : L.length = M.2.2.1) (hrest : rest.length ≤ 4) (d : decode M.2.1 pc = .ok (.invokevirtual idx, 3)) (k : k_V p l e (k_rm nf) s m args below meth c D cy ad bs ks mr 0 0 Q mi1 ml1 (pc + 3) (L) (rest)) : k_V p l e (k_rm nf) s m args below meth c D cy ad bs ks mr 0 0 Q mi ml (pc) (L) (vR kk :: rest) := by
  refine k_callVG C (as := []) w hC hk hc rfl hL (k_rmle hnf w.1.2.2.2.2) ⟨Nat.zero_le _, Nat.zero_le _⟩ rfl hrest d (fun r mi' ml' h => ?_)
  obtain ⟨rfl, rfl, rfl⟩ := h
  exact k
theorem k_callsv0 (C : k_Cx p s m args meth c D cy ad bs ks M) {nf nf' idx : Nat} {M' : k_M} {rest : List MV} {mi1 : MemI} {ml1 : MemL} (w : k_CS M.1.cls idx M' 0) (hC : k_Ct ks mr M' nf' [] mi ml (k_rt none mi1 ml1)) (hnf : nf' < nf) (hL : L.length = M.2.2.1) (hrest : rest.length ≤ 4) (d : decode M.2.1 pc = .ok (.invokestatic idx, 3)) (k : k_V p l e (k_rm nf) s m args below meth c D cy ad bs ks mr 0 0 Q mi1 ml1 (pc + 3) (L) (rest)) : k_V p l e (k_rm nf) s m args below meth c D cy ad bs ks mr 0 0 Q mi ml (pc) (L) (rest) := by
  refine k_callSG C (as := []) w hC rfl hL (k_rmle hnf w.1.2.2.2.2) ⟨Nat.zero_le _, Nat.zero_le _⟩ rfl hrest d (fun r mi' ml' h => ?_)
  obtain ⟨rfl, rfl, rfl⟩ := h
  exact k
theorem k_callP0 (C : k_Cx p s m args meth c D cy ad bs ks M) {nf nf' idx ci : Nat} {M' : k_M} {kk : Ky} {rest : List MV} {P : Option MV → MemI → MemL → Prop} (w : k_CV M.1.cls idx ci M' 0) (hC : k_Ct ks mr M' nf' [vR kk] mi ml P) (hk : kk ∈ ks) (hc : kk.1 = ci) (hnf : nf' < nf) (hL : L.length = M.2.2.1) (hrest : rest.length ≤ 4) (d : decode M.2.1 pc = .ok (.invokevirtual idx, 3)) (k : ∀ (r : Option MV) (mi' : MemI) (ml' : MemL), P r mi' ml' → k_V p l e (k_rm nf) s m args below meth c D cy ad bs ks mr 0 0 Q mi' ml' (pc + 3) (L) (r.toList ++ rest)) : k_V p l e (k_rm nf) s m args below meth c D cy ad bs ks mr 0 0 Q mi ml (pc) (L) (vR kk :: rest) :=
  k_callVG C (as := []) w hC hk hc rfl hL (k_rmle hnf w.1.2.2.2.2) ⟨Nat.zero_le _, Nat.zero_le _⟩ rfl hrest d k
theorem k_call1 (C : k_Cx p s m args meth c D cy ad bs ks M) {nf nf' idx ci : Nat} {M' : k_M} {kk : Ky} {a1 : MV} {rest : List MV} {v : MV} {mi1 : MemI} {ml1 : MemL} (w : k_CV M.1.cls idx ci M' 1) (hC : k_Ct ks mr M' nf' [vR kk, a1] mi ml (k_rt (some v) mi1 ml1)) (hk : kk ∈ ks) (hc : kk.1 = ci) (hnf : nf' < nf) (hL : L.length = M.2.2.1) (hrest : rest.length ≤ 4) (d : decode M.2.1 pc = .ok (.invokevirtual idx, 3)) (k : k_V p l e (k_rm nf) s m args below meth c D cy ad bs ks mr 0 0 Q mi1 ml1 (pc + 3) (L) (v :: rest)) : k_V p l e (k_rm nf) s m args below meth c D cy ad bs ks mr 0 0 Q mi ml (pc) (L) (a1 :: vR kk :: rest) := by
  refine k_callVG C (as := [a1]) w hC hk hc rfl hL (k_rmle hnf w.1.2.2.2.2) ⟨Nat.zero_le _, Nat.zero_le _⟩ rfl hrest d (fun r mi' ml' h => ?_)
  obtain ⟨rfl, rfl, rfl⟩ := h
  exact k
theorem k_calls1 (C : k_Cx p s m args meth c D cy ad bs ks M) {nf nf' idx : Nat} {M' : k_M} {a1 : MV} {rest : List MV} {v : MV} {mi1 : MemI} {ml1 : MemL} (w : k_CS M.1.cls idx M' 1) (hC : k_Ct ks mr M' nf' [a1] mi ml (k_rt (some v) mi1 ml1)) (hnf : nf' < nf) (hL : L.length = M.2.2.1) (hrest : rest.length ≤ 4) (d : decode M.2.1 pc = .ok (.invokestatic idx, 3)) (k : k_V p l e (k_rm nf) s m args below meth c D cy ad bs ks mr 0 0 Q mi1 ml1 (pc + 3) (L) (v :: rest)) : k_V p l e (k_rm nf) s m args below meth c D cy ad bs ks mr 0 0 Q mi ml (pc) (L) (a1 :: rest) := by
  refine k_callSG C (as := [a1]) w hC rfl hL (k_rmle hnf w.1.2.2.2.2) ⟨Nat.zero_le _, Nat.zero_le _⟩ rfl hrest d (fun r mi' ml' h => ?_)
  obtain ⟨rfl, rfl, rfl⟩ := h
  exact k
theorem k_callv1 (C : k_Cx p s m args meth c D cy ad bs ks M) {nf nf' idx ci : Nat} {M' : k_M} {kk : Ky} {a1 : MV} {rest : List MV} {mi1 : MemI} {ml1 : MemL} (w : k_CV M.1.cls idx ci M' 1) (hC : k_Ct ks mr M' nf' [vR kk, a1] mi ml (k_rt none mi1 ml1)) (hk : kk ∈ ks) (hc : kk.1 = ci) (hnf : nf' < nf) (hL : L.length = M.2.2.1) (hrest : rest.length ≤ 4) (d : decode M.2.1 pc = .ok (.invokevirtual idx, 3)) (k : k_V p l e (k_rm nf) s m args below meth c D cy ad bs ks mr 0 0 Q mi1 ml1 (pc + 3) (L) (rest)) : k_V p l e (k_rm nf) s m args below meth c D cy ad bs ks mr 0 0 Q mi ml (pc) (L) (a1 :: vR kk :: rest) := by
  refine k_callVG C (as := [a1]) w hC hk hc rfl hL (k_rmle hnf w.1.2.2.2.2) ⟨Nat.zero_le _, Nat.zero_le _⟩ rfl hrest d (fun r mi' ml' h => ?_)
  obtain ⟨rfl, rfl, rfl⟩ := h
  exact k
theorem k_callsv1 (C : k_Cx p s m args meth c D cy ad bs ks M) {nf nf' idx : Nat} {M' : k_M} {a1 : MV} {rest : List MV} {mi1 : MemI} {ml1 : MemL} (w : k_CS M.1.cls idx M' 1) (hC : k_Ct ks mr M' nf' [a1] mi ml (k_rt none mi1 ml1)) (hnf : nf' < nf) (hL : L.length = M.2.2.1) (hrest : rest.length ≤ 4) (d : decode M.2.1 pc = .ok (.invokestatic idx, 3)) (k : k_V p l e (k_rm nf) s m args below meth c D cy ad bs ks mr 0 0 Q mi1 ml1 (pc + 3) (L) (rest)) : k_V p l e (k_rm nf) s m args below meth c D cy ad bs ks mr 0 0 Q mi ml (pc) (L) (a1 :: rest) := by
  refine k_callSG C (as := [a1]) w hC rfl hL (k_rmle hnf w.1.2.2.2.2) ⟨Nat.zero_le _, Nat.zero_le _⟩ rfl hrest d (fun r mi' ml' h => ?_)
  obtain ⟨rfl, rfl, rfl⟩ := h
  exact k
theorem k_callP1 (C : k_Cx p s m args meth c D cy ad bs ks M) {nf nf' idx ci : Nat} {M' : k_M} {kk : Ky} {a1 : MV} {rest : List MV} {P : Option MV → MemI → MemL → Prop} (w : k_CV M.1.cls idx ci M' 1) (hC : k_Ct ks mr M' nf' [vR kk, a1] mi ml P) (hk : kk ∈ ks) (hc : kk.1 = ci) (hnf : nf' < nf) (hL : L.length = M.2.2.1) (hrest : rest.length ≤ 4) (d : decode M.2.1 pc = .ok (.invokevirtual idx, 3)) (k : ∀ (r : Option MV) (mi' : MemI) (ml' : MemL), P r mi' ml' → k_V p l e (k_rm nf) s m args below meth c D cy ad bs ks mr 0 0 Q mi' ml' (pc + 3) (L) (r.toList ++ rest)) : k_V p l e (k_rm nf) s m args below meth c D cy ad bs ks mr 0 0 Q mi ml (pc) (L) (a1 :: vR kk :: rest) :=
  k_callVG C (as := [a1]) w hC hk hc rfl hL (k_rmle hnf w.1.2.2.2.2) ⟨Nat.zero_le _, Nat.zero_le _⟩ rfl hrest d k
theorem k_call2 (C : k_Cx p s m args meth c D cy ad bs ks M) {nf nf' idx ci : Nat} {M' : k_M} {kk : Ky} {a1 a2 : MV} {rest : List MV} {v : MV} {mi1 : MemI} {ml1 : MemL} (w : k_CV M.1.cls idx ci M' 2) (hC : k_Ct ks mr M' nf' [vR kk, a1, a2] mi ml (k_rt (some v) mi1 ml1)) (hk : kk ∈ ks) (hc : kk.1 = ci) (hnf : nf' < nf) (hL : L.length = M.2.2.1) (hrest : rest.length ≤ 4) (d : decode M.2.1 pc = .ok (.invokevirtual idx, 3)) (k : k_V p l e (k_rm nf) s m args below meth c D cy ad bs ks mr 0 0 Q mi1 ml1 (pc + 3) (L) (v :: rest)) : k_V p l e (k_rm nf) s m args below meth c D cy ad bs ks mr 0 0 Q mi ml (pc) (L) (a2 :: a1 :: vR kk :: rest) := by
  refine k_callVG C (as := [a1, a2]) w hC hk hc rfl hL (k_rmle hnf w.1.2.2.2.2) ⟨Nat.zero_le _, Nat.zero_le _⟩ rfl hrest d (fun r mi' ml' h => ?_)
  obtain ⟨rfl, rfl, rfl⟩ := h
  exact k
theorem k_calls2 (C : k_Cx p s m args meth c D cy ad bs ks M) {nf nf' idx : Nat} {M' : k_M} {a1 a2 : MV} {rest : List MV} {v : MV} {mi1 : MemI} {ml1 : MemL} (w : k_CS M.1.cls idx M' 2) (hC : k_Ct ks mr M' nf' [a1, a2] mi ml (k_rt (some v) mi1 ml1)) (hnf : nf' < nf) (hL : L.length = M.2.2.1) (hrest : rest.length ≤ 4) (d : decode M.2.1 pc = .ok (.invokestatic idx, 3)) (k : k_V p l e (k_rm nf) s m args below meth c D cy ad bs ks mr 0 0 Q mi1 ml1 (pc + 3) (L) (v :: rest)) : k_V p l e (k_rm nf) s m args below meth c D cy ad bs ks mr 0 0 Q mi ml (pc) (L) (a2 :: a1 :: rest) := by
  refine k_callSG C (as := [a1, a2]) w hC rfl hL (k_rmle hnf w.1.2.2.2.2) ⟨Nat.zero_le _, Nat.zero_le _⟩ rfl hrest d (fun r mi' ml' h => ?_)
  obtain ⟨rfl, rfl, rfl⟩ := h
  exact k
theorem k_callv2 (C : k_Cx p s m args meth c D cy ad bs ks M) {nf nf' idx ci : Nat} {M' : k_M} {kk : Ky} {a1 a2 : MV} {rest : List MV} {mi1 : MemI} {ml1 : MemL} (w : k_CV M.1.cls idx ci M' 2) (hC : k_Ct ks mr M' nf' [vR kk, a1, a2] mi ml (k_rt none mi1 ml1)) (hk : kk ∈ ks) (hc : kk.1 = ci) (hnf : nf' < nf) (hL : L.length = M.2.2.1) (hrest : rest.length ≤ 4) (d : decode M.2.1 pc = .ok (.invokevirtual idx, 3)) (k : k_V p l e (k_rm nf) s m args below meth c D cy ad bs ks mr 0 0 Q mi1 ml1 (pc + 3) (L) (rest)) : k_V p l e (k_rm nf) s m args below meth c D cy ad bs ks mr 0 0 Q mi ml (pc) (L) (a2 :: a1 :: vR kk :: rest) := by
  refine k_callVG C (as := [a1, a2]) w hC hk hc rfl hL (k_rmle hnf w.1.2.2.2.2) ⟨Nat.zero_le _, Nat.zero_le _⟩ rfl hrest d (fun r mi' ml' h => ?_)
  obtain ⟨rfl, rfl, rfl⟩ := h
  exact k
theorem k_callsv2 (C : k_Cx p s m args meth c D cy ad bs ks M) {nf nf' idx : Nat} {M' : k_M} {a1 a2 : MV} {rest : List MV} {mi1 : MemI} {ml1 : MemL} (w : k_CS M.1.cls idx M' 2) (hC : k_Ct ks mr M' nf' [a1, a2] mi ml (k_rt none mi1 ml1)) (hnf : nf' < nf) (hL : L.length = M.2.2.1) (hrest : rest.length ≤ 4) (d : decode M.2.1 pc = .ok (.invokestatic idx, 3)) (k : k_V p l e (k_rm nf) s m args below meth c D cy ad bs ks mr 0 0 Q mi1 ml1 (pc + 3) (L) (rest)) : k_V p l e (k_rm nf) s m args below meth c D cy ad bs ks mr 0 0 Q mi ml (pc) (L) (a2 :: a1 :: rest) := by
  refine k_callSG C (as := [a1, a2]) w hC rfl hL (k_rmle hnf w.1.2.2.2.2) ⟨Nat.zero_le _, Nat.zero_le _⟩ rfl hrest d (fun r mi' ml' h => ?_)
  obtain ⟨rfl, rfl, rfl⟩ := h
  exact k
theorem k_callP2 (C : k_Cx p s m args meth c D cy ad bs ks M) {nf nf' idx ci : Nat} {M' : k_M} {kk : Ky} {a1 a2 : MV} {rest : List MV} {P : Option MV → MemI → MemL → Prop} (w : k_CV M.1.cls idx ci M' 2) (hC : k_Ct ks mr M' nf' [vR kk, a1, a2] mi ml P) (hk : kk ∈ ks) (hc : kk.1 = ci) (hnf : nf' < nf) (hL : L.length = M.2.2.1) (hrest : rest.length ≤ 4) (d : decode M.2.1 pc = .ok (.invokevirtual idx, 3)) (k : ∀ (r : Option MV) (mi' : MemI) (ml' : MemL), P r mi' ml' → k_V p l e (k_rm nf) s m args below meth c D cy ad bs ks mr 0 0 Q mi' ml' (pc + 3) (L) (r.toList ++ rest)) : k_V p l e (k_rm nf) s m args below meth c D cy ad bs ks mr 0 0 Q mi ml (pc) (L) (a2 :: a1 :: vR kk :: rest) :=
  k_callVG C (as := [a1, a2]) w hC hk hc rfl hL (k_rmle hnf w.1.2.2.2.2) ⟨Nat.zero_le _, Nat.zero_le _⟩ rfl hrest d k
theorem k_call3 (C : k_Cx p s m args meth c D cy ad bs ks M) {nf nf' idx ci : Nat} {M' : k_M} {kk : Ky} {a1 a2 a3 : MV} {rest : List MV} {v : MV} {mi1 : MemI} {ml1 : MemL} (w : k_CV M.1.cls idx ci M' 3) (hC : k_Ct ks mr M' nf' [vR kk, a1, a2, a3] mi ml (k_rt (some v) mi1 ml1)) (hk : kk ∈ ks) (hc : kk.1 = ci) (hnf : nf' < nf) (hL : L.length = M.2.2.1) (hrest : rest.length ≤ 4) (d : decode M.2.1 pc = .ok (.invokevirtual idx, 3)) (k : k_V p l e (k_rm nf) s m args below meth c D cy ad bs ks mr 0 0 Q mi1 ml1 (pc + 3) (L) (v :: rest)) : k_V p l e (k_rm nf) s m args below meth c D cy ad bs ks mr 0 0 Q mi ml (pc) (L) (a3 :: a2 :: a1 :: vR kk :: rest) := by
  refine k_callVG C (as := [a1, a2, a3]) w hC hk hc rfl hL (k_rmle hnf w.1.2.2.2.2) ⟨Nat.zero_le _, Nat.zero_le _⟩ rfl hrest d (fun r mi' ml' h => ?_)
  obtain ⟨rfl, rfl, rfl⟩ := h
  exact k
theorem k_calls3 (C : k_Cx p s m args meth c D cy ad bs ks M) {nf nf' idx : Nat} {M' : k_M} {a1 a2 a3 : MV} {rest : List MV} {v : MV} {mi1 : MemI} {ml1 : MemL} (w : k_CS M.1.cls idx M' 3) (hC : k_Ct ks mr M' nf' [a1, a2, a3] mi ml (k_rt (some v) mi1 ml1)) (hnf : nf' < nf) (hL : L.length = M.2.2.1) (hrest : rest.length ≤ 4) (d : decode M.2.1 pc = .ok (.invokestatic idx, 3)) (k : k_V p l e (k_rm nf) s m args below meth c D cy ad bs ks mr 0 0 Q mi1 ml1 (pc + 3) (L) (v :: rest)) : k_V p l e (k_rm nf) s m args below meth c D cy ad bs ks mr 0 0 Q mi ml (pc) (L) (a3 :: a2 :: a1 :: rest) := by
  refine k_callSG C (as := [a1, a2, a3]) w hC rfl hL (k_rmle hnf w.1.2.2.2.2) ⟨Nat.zero_le _, Nat.zero_le _⟩ rfl hrest d (fun r mi' ml' h => ?_)
  obtain ⟨rfl, rfl, rfl⟩ := h
  exact k
theorem k_callv3 (C : k_Cx p s m args meth c D cy ad bs ks M) {nf nf' idx ci : Nat} {M' : k_M} {kk : Ky} {a1 a2 a3 : MV} {rest : List MV} {mi1 : MemI} {ml1 : MemL} (w : k_CV M.1.cls idx ci M' 3) (hC : k_Ct ks mr M' nf' [vR kk, a1, a2, a3] mi ml (k_rt none mi1 ml1)) (hk : kk ∈ ks) (hc : kk.1 = ci) (hnf : nf' < nf) (hL : L.length = M.2.2.1) (hrest : rest.length ≤ 4) (d : decode M.2.1 pc = .ok (.invokevirtual idx, 3)) (k : k_V p l e (k_rm nf) s m args below meth c D cy ad bs ks mr 0 0 Q mi1 ml1 (pc + 3) (L) (rest)) : k_V p l e (k_rm nf) s m args below meth c D cy ad bs ks mr 0 0 Q mi ml (pc) (L) (a3 :: a2 :: a1 :: vR kk :: rest) := by
  refine k_callVG C (as := [a1, a2, a3]) w hC hk hc rfl hL (k_rmle hnf w.1.2.2.2.2) ⟨Nat.zero_le _, Nat.zero_le _⟩ rfl hrest d (fun r mi' ml' h => ?_)
  obtain ⟨rfl, rfl, rfl⟩ := h
  exact k
theorem k_callsv3 (C : k_Cx p s m args meth c D cy ad bs ks M) {nf nf' idx : Nat} {M' : k_M} {a1 a2 a3 : MV} {rest : List MV} {mi1 : MemI} {ml1 : MemL} (w : k_CS M.1.cls idx M' 3) (hC : k_Ct ks mr M' nf' [a1, a2, a3] mi ml (k_rt none mi1 ml1)) (hnf : nf' < nf) (hL : L.length = M.2.2.1) (hrest : rest.length ≤ 4) (d : decode M.2.1 pc = .ok (.invokestatic idx, 3)) (k : k_V p l e (k_rm nf) s m args below meth c D cy ad bs ks mr 0 0 Q mi1 ml1 (pc + 3) (L) (rest)) : k_V p l e (k_rm nf) s m args below meth c D cy ad bs ks mr 0 0 Q mi ml (pc) (L) (a3 :: a2 :: a1 :: rest) := by
  refine k_callSG C (as := [a1, a2, a3]) w hC rfl hL (k_rmle hnf w.1.2.2.2.2) ⟨Nat.zero_le _, Nat.zero_le _⟩ rfl hrest d (fun r mi' ml' h => ?_)
  obtain ⟨rfl, rfl, rfl⟩ := h
  exact k
theorem k_callP3 (C : k_Cx p s m args meth c D cy ad bs ks M) {nf nf' idx ci : Nat} {M' : k_M} {kk : Ky} {a1 a2 a3 : MV} {rest : List MV} {P : Option MV → MemI → MemL → Prop} (w : k_CV M.1.cls idx ci M' 3) (hC : k_Ct ks mr M' nf' [vR kk, a1, a2, a3] mi ml P) (hk : kk ∈ ks) (hc : kk.1 = ci) (hnf : nf' < nf) (hL : L.length = M.2.2.1) (hrest : rest.length ≤ 4) (d : decode M.2.1 pc = .ok (.invokevirtual idx, 3)) (k : ∀ (r : Option MV) (mi' : MemI) (ml' : MemL), P r mi' ml' → k_V p l e (k_rm nf) s m args below meth c D cy ad bs ks mr 0 0 Q mi' ml' (pc + 3) (L) (r.toList ++ rest)) : k_V p l e (k_rm nf) s m args below meth c D cy ad bs ks mr 0 0 Q mi ml (pc) (L) (a3 :: a2 :: a1 :: vR kk :: rest) :=
  k_callVG C (as := [a1, a2, a3]) w hC hk hc rfl hL (k_rmle hnf w.1.2.2.2.2) ⟨Nat.zero_le _, Nat.zero_le _⟩ rfl hrest d k
theorem k_call4 (C : k_Cx p s m args meth c D cy ad bs ks M) {nf nf' idx ci : Nat} {M' : k_M} {kk : Ky} {a1 a2 a3 a4 : MV} {rest : List MV} {v : MV} {mi1 : MemI} {ml1 : MemL} (w : k_CV M.1.cls idx ci M' 4) (hC : k_Ct ks mr M' nf' [vR kk, a1, a2, a3, a4] mi ml (k_rt (some v) mi1 ml1)) (hk : kk ∈ ks) (hc : kk.1 = ci) (hnf : nf' < nf) (hL : L.length = M.2.2.1) (hrest : rest.length ≤ 4) (d : decode M.2.1 pc = .ok (.invokevirtual idx, 3)) (k : k_V p l e (k_rm nf) s m args below meth c D cy ad bs ks mr 0 0 Q mi1 ml1 (pc + 3) (L) (v :: rest)) : k_V p l e (k_rm nf) s m args below meth c D cy ad bs ks mr 0 0 Q mi ml (pc) (L) (a4 :: a3 :: a2 :: a1 :: vR kk :: rest) := by
  refine k_callVG C (as := [a1, a2, a3, a4]) w hC hk hc rfl hL (k_rmle hnf w.1.2.2.2.2) ⟨Nat.zero_le _, Nat.zero_le _⟩ rfl hrest d (fun r mi' ml' h => ?_)
  obtain ⟨rfl, rfl, rfl⟩ := h
  exact k
theorem k_calls4 (C : k_Cx p s m args meth c D cy ad bs ks M) {nf nf' idx : Nat} {M' : k_M} {a1 a2 a3 a4 : MV} {rest : List MV} {v : MV} {mi1 : MemI} {ml1 : MemL} (w : k_CS M.1.cls idx M' 4) (hC : k_Ct ks mr M' nf' [a1, a2, a3, a4] mi ml (k_rt (some v) mi1 ml1)) (hnf : nf' < nf) (hL : L.length = M.2.2.1) (hrest : rest.length ≤ 4) (d : decode M.2.1 pc = .ok (.invokestatic idx, 3)) (k : k_V p l e (k_rm nf) s m args below meth c D cy ad bs ks mr 0 0 Q mi1 ml1 (pc + 3) (L) (v :: rest)) : k_V p l e (k_rm nf) s m args below meth c D cy ad bs ks mr 0 0 Q mi ml (pc) (L) (a4 :: a3 :: a2 :: a1 :: rest) := by
  refine k_callSG C (as := [a1, a2, a3, a4]) w hC rfl hL (k_rmle hnf w.1.2.2.2.2) ⟨Nat.zero_le _, Nat.zero_le _⟩ rfl hrest d (fun r mi' ml' h => ?_)
  obtain ⟨rfl, rfl, rfl⟩ := h
  exact k
theorem k_callv4 (C : k_Cx p s m args meth c D cy ad bs ks M) {nf nf' idx ci : Nat} {M' : k_M} {kk : Ky} {a1 a2 a3 a4 : MV} {rest : List MV} {mi1 : MemI} {ml1 : MemL} (w : k_CV M.1.cls idx ci M' 4) (hC : k_Ct ks mr M' nf' [vR kk, a1, a2, a3, a4] mi ml (k_rt none mi1 ml1)) (hk : kk ∈ ks) (hc : kk.1 = ci) (hnf : nf' < nf) (hL : L.length = M.2.2.1) (hrest : rest.length ≤ 4) (d : decode M.2.1 pc = .ok (.invokevirtual idx, 3)) (k : k_V p l e (k_rm nf) s m args below meth c D cy ad bs ks mr 0 0 Q mi1 ml1 (pc + 3) (L) (rest)) : k_V p l e (k_rm nf) s m args below meth c D cy ad bs ks mr 0 0 Q mi ml (pc) (L) (a4 :: a3 :: a2 :: a1 :: vR kk :: rest) := by
  refine k_callVG C (as := [a1, a2, a3, a4]) w hC hk hc rfl hL (k_rmle hnf w.1.2.2.2.2) ⟨Nat.zero_le _, Nat.zero_le _⟩ rfl hrest d (fun r mi' ml' h => ?_)
  obtain ⟨rfl, rfl, rfl⟩ := h
  exact k
theorem k_callsv4 (C : k_Cx p s m args meth c D cy ad bs ks M) {nf nf' idx : Nat} {M' : k_M} {a1 a2 a3 a4 : MV} {rest : List MV} {mi1 : MemI} {ml1 : MemL} (w : k_CS M.1.cls idx M' 4) (hC : k_Ct ks mr M' nf' [a1, a2, a3, a4] mi ml (k_rt none mi1 ml1)) (hnf : nf' < nf) (hL : L.length = M.2.2.1) (hrest : rest.length ≤ 4) (d : decode M.2.1 pc = .ok (.invokestatic idx, 3)) (k : k_V p l e (k_rm nf) s m args below meth c D cy ad bs ks mr 0 0 Q mi1 ml1 (pc + 3) (L) (rest)) : k_V p l e (k_rm nf) s m args below meth c D cy ad bs ks mr 0 0 Q mi ml (pc) (L) (a4 :: a3 :: a2 :: a1 :: rest) := by
  refine k_callSG C (as := [a1, a2, a3, a4]) w hC rfl hL (k_rmle hnf w.1.2.2.2.2) ⟨Nat.zero_le _, Nat.zero_le _⟩ rfl hrest d (fun r mi' ml' h => ?_)
  obtain ⟨rfl, rfl, rfl⟩ := h
  exact k
theorem k_callP4 (C : k_Cx p s m args meth c D cy ad bs ks M) {nf nf' idx ci : Nat} {M' : k_M} {kk : Ky} {a1 a2 a3 a4 : MV} {rest : List MV} {P : Option MV → MemI → MemL → Prop} (w : k_CV M.1.cls idx ci M' 4) (hC : k_Ct ks mr M' nf' [vR kk, a1, a2, a3, a4] mi ml P) (hk : kk ∈ ks) (hc : kk.1 = ci) (hnf : nf' < nf) (hL : L.length = M.2.2.1) (hrest : rest.length ≤ 4) (d : decode M.2.1 pc = .ok (.invokevirtual idx, 3)) (k : ∀ (r : Option MV) (mi' : MemI) (ml' : MemL), P r mi' ml' → k_V p l e (k_rm nf) s m args below meth c D cy ad bs ks mr 0 0 Q mi' ml' (pc + 3) (L) (r.toList ++ rest)) : k_V p l e (k_rm nf) s m args below meth c D cy ad bs ks mr 0 0 Q mi ml (pc) (L) (a4 :: a3 :: a2 :: a1 :: vR kk :: rest) :=
  k_callVG C (as := [a1, a2, a3, a4]) w hC hk hc rfl hL (k_rmle hnf w.1.2.2.2.2) ⟨Nat.zero_le _, Nat.zero_le _⟩ rfl hrest d k
theorem k_call5 (C : k_Cx p s m args meth c D cy ad bs ks M) {nf nf' idx ci : Nat} {M' : k_M} {kk : Ky} {a1 a2 a3 a4 a5 : MV} {rest : List MV} {v : MV} {mi1 : MemI} {ml1 : MemL} (w : k_CV M.1.cls idx ci M' 5) (hC : k_Ct ks mr M' nf' [vR kk, a1, a2, a3, a4, a5] mi ml (k_rt (some v) mi1 ml1)) (hk : kk ∈ ks) (hc : kk.1 = ci) (hnf : nf' < nf) (hL : L.length = M.2.2.1) (hrest : rest.length ≤ 4) (d : decode M.2.1 pc = .ok (.invokevirtual idx, 3)) (k : k_V p l e (k_rm nf) s m args below meth c D cy ad bs ks mr 0 0 Q mi1 ml1 (pc + 3) (L) (v :: rest)) : k_V p l e (k_rm nf) s m args below meth c D cy ad bs ks mr 0 0 Q mi ml (pc) (L) (a5 :: a4 :: a3 :: a2 :: a1 :: vR kk :: rest) := by
  refine k_callVG C (as := [a1, a2, a3, a4, a5]) w hC hk hc rfl hL (k_rmle hnf w.1.2.2.2.2) ⟨Nat.zero_le _, Nat.zero_le _⟩ rfl hrest d (fun r mi' ml' h => ?_)
  obtain ⟨rfl, rfl, rfl⟩ := h
  exact k
theorem k_calls5 (C : k_Cx p s m args meth c D cy ad bs ks M) {nf nf' idx : Nat} {M' : k_M} {a1 a2 a3 a4 a5 : MV} {rest : List MV} {v : MV} {mi1 : MemI} {ml1 : MemL} (w : k_CS M.1.cls idx M' 5) (hC : k_Ct ks mr M' nf' [a1, a2, a3, a4, a5] mi ml (k_rt (some v) mi1 ml1)) (hnf : nf' < nf) (hL : L.length = M.2.2.1) (hrest : rest.length ≤ 4) (d : decode M.2.1 pc = .ok (.invokestatic idx, 3)) (k : k_V p l e (k_rm nf) s m args below meth c D cy ad bs ks mr 0 0 Q mi1 ml1 (pc + 3) (L) (v :: rest)) : k_V p l e (k_rm nf) s m args below meth c D cy ad bs ks mr 0 0 Q mi ml (pc) (L) (a5 :: a4 :: a3 :: a2 :: a1 :: rest) := by
  refine k_callSG C (as := [a1, a2, a3, a4, a5]) w hC rfl hL (k_rmle hnf w.1.2.2.2.2) ⟨Nat.zero_le _, Nat.zero_le _⟩ rfl hrest d (fun r mi' ml' h => ?_)
  obtain ⟨rfl, rfl, rfl⟩ := h
  exact k
theorem k_callv5 (C : k_Cx p s m args meth c D cy ad bs ks M) {nf nf' idx ci : Nat} {M' : k_M} {kk : Ky} {a1 a2 a3 a4 a5 : MV} {rest : List MV} {mi1 : MemI} {ml1 : MemL} (w : k_CV M.1.cls idx ci M' 5) (hC : k_Ct ks mr M' nf' [vR kk, a1, a2, a3, a4, a5] mi ml (k_rt none mi1 ml1)) (hk : kk ∈ ks) (hc : kk.1 = ci) (hnf : nf' < nf) (hL : L.length = M.2.2.1) (hrest : rest.length ≤ 4) (d : decode M.2.1 pc = .ok (.invokevirtual idx, 3)) (k : k_V p l e (k_rm nf) s m args below meth c D cy ad bs ks mr 0 0 Q mi1 ml1 (pc + 3) (L) (rest)) : k_V p l e (k_rm nf) s m args below meth c D cy ad bs ks mr 0 0 Q mi ml (pc) (L) (a5 :: a4 :: a3 :: a2 :: a1 :: vR kk :: rest) := by
  refine k_callVG C (as := [a1, a2, a3, a4, a5]) w hC hk hc rfl hL (k_rmle hnf w.1.2.2.2.2) ⟨Nat.zero_le _, Nat.zero_le _⟩ rfl hrest d (fun r mi' ml' h => ?_)
  obtain ⟨rfl, rfl, rfl⟩ := h
  exact k
theorem k_callsv5 (C : k_Cx p s m args meth c D cy ad bs ks M) {nf nf' idx : Nat} {M' : k_M} {a1 a2 a3 a4 a5 : MV} {rest : List MV} {mi1 : MemI} {ml1 : MemL} (w : k_CS M.1.cls idx M' 5) (hC : k_Ct ks mr M' nf' [a1, a2, a3, a4, a5] mi ml (k_rt none mi1 ml1)) (hnf : nf' < nf) (hL : L.length = M.2.2.1) (hrest : rest.length ≤ 4) (d : decode M.2.1 pc = .ok (.invokestatic idx, 3)) (k : k_V p l e (k_rm nf) s m args below meth c D cy ad bs ks mr 0 0 Q mi1 ml1 (pc + 3) (L) (rest)) : k_V p l e (k_rm nf) s m args below meth c D cy ad bs ks mr 0 0 Q mi ml (pc) (L) (a5 :: a4 :: a3 :: a2 :: a1 :: rest) := by
  refine k_callSG C (as := [a1, a2, a3, a4, a5]) w hC rfl hL (k_rmle hnf w.1.2.2.2.2) ⟨Nat.zero_le _, Nat.zero_le _⟩ rfl hrest d (fun r mi' ml' h => ?_)
  obtain ⟨rfl, rfl, rfl⟩ := h
  exact k
theorem k_callP5 (C : k_Cx p s m args meth c D cy ad bs ks M) {nf nf' idx ci : Nat} {M' : k_M} {kk : Ky} {a1 a2 a3 a4 a5 : MV} {rest : List MV} {P : Option MV → MemI → MemL → Prop} (w : k_CV M.1.cls idx ci M' 5) (hC : k_Ct ks mr M' nf' [vR kk, a1, a2, a3, a4, a5] mi ml P) (hk : kk ∈ ks) (hc : kk.1 = ci) (hnf : nf' < nf) (hL : L.length = M.2.2.1) (hrest : rest.length ≤ 4) (d : decode M.2.1 pc = .ok (.invokevirtual idx, 3)) (k : ∀ (r : Option MV) (mi' : MemI) (ml' : MemL), P r mi' ml' → k_V p l e (k_rm nf) s m args below meth c D cy ad bs ks mr 0 0 Q mi' ml' (pc + 3) (L) (r.toList ++ rest)) : k_V p l e (k_rm nf) s m args below meth c D cy ad bs ks mr 0 0 Q mi ml (pc) (L) (a5 :: a4 :: a3 :: a2 :: a1 :: vR kk :: rest) :=
  k_callVG C (as := [a1, a2, a3, a4, a5]) w hC hk hc rfl hL (k_rmle hnf w.1.2.2.2.2) ⟨Nat.zero_le _, Nat.zero_le _⟩ rfl hrest d k
def k_mx (x y : Int32) : Int32 := if x < y then y else x
def k_mn (x y : Int32) : Int32 := if y < x then y else x
theorem k_mmax (C : k_Cx p s m args meth c D cy ad bs ks M) {idx : Nat} {x y : Int32} {nf : Nat} {rest : List MV} (hw : Cond.methodLink M.1.cls idx Lib.Math.max.name ∈ k_WS) (h1 : Cond.static Lib.Math.max.name ∈ k_WS) (h2 : Cond.initialized "java/lang/Math" ∈ k_WS) (h3 : Cond.code Lib.Math.max.name Lib.Math.max.code 2 (some .int) ∈ k_WS) (hnf : 0 < nf) (hL : L.length = M.2.2.1) (hrest : rest.length ≤ 4) (d : decode M.2.1 pc = .ok (.invokestatic idx, 3)) (k : k_V p l e (k_rm nf) s m args below meth c D cy ad bs ks mr 0 0 Q mi ml (pc + 3) (L) (vI (k_mx x y) :: rest)) : k_V p l e (k_rm nf) s m args below meth c D cy ad bs ks mr 0 0 Q mi ml (pc) (L) (vI y :: vI x :: rest) := by
  obtain ⟨⟨hx, hb, hml, hown, hts⟩, hF, hr, hlk, hnm⟩ := C
  intro H locs ls hP hS hl
  refine va_mmax hx hb (hml.trans (hL.symm.trans hl.1.symm)) hown (hts _ hw) (hts _ h1) (hts _ h2) (hts _ h3) (show 1 ≤ (k_rm nf).frames from hnf) ?_ (Nat.zero_le _) (Nat.zero_le _) d (k H locs ls hP hS hl)
  have h9 := k_catsum ad rest
  show _ ≤ 40 * nf
  omega
theorem k_mmin (C : k_Cx p s m args meth c D cy ad bs ks M) {idx : Nat} {x y : Int32} {nf : Nat} {rest : List MV} (hw : Cond.methodLink M.1.cls idx Lib.Math.min.name ∈ k_WS) (h1 : Cond.static Lib.Math.min.name ∈ k_WS) (h2 : Cond.initialized "java/lang/Math" ∈ k_WS) (h3 : Cond.code Lib.Math.min.name Lib.Math.min.code 2 (some .int) ∈ k_WS) (hnf : 0 < nf) (hL : L.length = M.2.2.1) (hrest : rest.length ≤ 4) (d : decode M.2.1 pc = .ok (.invokestatic idx, 3)) (k : k_V p l e (k_rm nf) s m args below meth c D cy ad bs ks mr 0 0 Q mi ml (pc + 3) (L) (vI (k_mn x y) :: rest)) : k_V p l e (k_rm nf) s m args below meth c D cy ad bs ks mr 0 0 Q mi ml (pc) (L) (vI y :: vI x :: rest) := by
  obtain ⟨⟨hx, hb, hml, hown, hts⟩, hF, hr, hlk, hnm⟩ := C
  intro H locs ls hP hS hl
  refine va_mmin hx hb (hml.trans (hL.symm.trans hl.1.symm)) hown (hts _ hw) (hts _ h1) (hts _ h2) (hts _ h3) (show 1 ≤ (k_rm nf).frames from hnf) ?_ (Nat.zero_le _) (Nat.zero_le _) d (k H locs ls hP hS hl)
  have h9 := k_catsum ad rest
  show _ ≤ 40 * nf
  omega
end KC
