/-! contracts of constructors: which cells come -/
def k_rmN (nf mc ms : Nat) : Room := { frames := nf, cells := mc, slots := ms, locals := 40 * nf }
def k_QcN (D : va_G) (cy : Nat → ClassId) (ad : Ky → Nat) (bs : Nat) (ks ns : List Ky) (mr2 : MemR) (mi2 : MemI) (ml2 : MemL) : Array Value → State → Outcome → State → Prop := fun _ st o t =>
  (o = .returned none ∧ ∃ ad', k_ag ks ad ad' ∧ k_ok bs ad' (ks ++ ns) ∧ va_P D vwCl (k_ws cy ad' (ks ++ ns) mr2 mi2 ml2) t.heap) ∧ va_F (k_AB bs) st t
def k_Cn (ks ns : List Ky) (M : k_M) (nf mc ms : Nat) (as : List MV) (mr : MemR) (mi : MemI) (ml : MemL) (mr2 : MemR) (mi2 : MemI) (ml2 : MemL) : Prop :=
  ∀ (l : Launch) (D : va_G) (cy : Nat → ClassId) (ad : Ky → Nat) (bs : Nat), Met l M.1 (k_wm M) (k_rmN nf mc ms) (k_Pc D cy ad bs ks mr mi ml as) (k_QcN D cy ad bs ks ns mr2 mi2 ml2) mc ms (k_AB bs)
def k_EndN (below : List Frame) (D : va_G) (cy : Nat → ClassId) (ad : Ky → Nat) (bs : Nat) (ks ns : List Ky) (mr2 : MemR) (mi2 : MemI) (ml2 : MemL) (mc ms : Nat) (args : Array Value) (s : State) : State → Prop := MQ below (k_QcN D cy ad bs ks ns mr2 mi2 ml2) args s mc ms (k_AB bs)
def k_CI (own : String) (idx : Nat) (M : k_M) (n : Nat) : Prop := k_cb M n ∧ k_ln2 own idx M ∧ Cond.instanceMethod M.1 ∈ k_WS ∧ M.1.name = "<init>"
theorem k_ag_rf {ks : List Ky} {ad : Ky → Nat} : k_ag ks ad ad := fun _ _ => rfl
theorem k_ag_tr {ks t : List Ky} {a b c : Ky → Nat} (h1 : k_ag ks a b) (h2 : k_ag (ks ++ t) b c) : k_ag ks a c := fun k hk => (h2 k (hk.imp (fun h => List.mem_append_left _ h) id)).trans (h1 k hk)
section KT2
variable {p : Program} {l : Launch} {e : Env} {R : Room} {s : State} {m : MethodId} {args : Array Value} {below : List Frame} {meth : Method} {c : Code} {D : va_G} {cy : Nat → ClassId} {ad : Ky → Nat} {bs : Nat} {ks : List Ky} {mr : MemR} {cells slots : Nat} {Q : State → Prop} {mi : MemI} {ml : MemL} {pc : Nat} {L st : List MV} {M : k_M} {P : Option MV → MemI → MemL → Prop}
variable {ad0 : Ky → Nat} {ns : List Ky} {mr2 : MemR} {mi2 : MemI} {ml2 : MemL} {mc ms : Nat}
theorem k_vretN (C : k_Cx p s m args meth c D cy ad bs (ks ++ ns) M) (hret : M.2.2.2 = none) (hag : k_ag ks ad0 ad) (d : decode M.2.1 pc = .ok (.return_, 1)) : k_V p l e R s m args below meth c D cy ad bs (ks ++ ns) mr mc ms (k_EndN below D cy ad0 bs ks ns mr mi ml mc ms args s) mi ml pc L [] := by
  obtain ⟨⟨hx, hb, hml, hown, hts⟩, ⟨hbs, hK, hNW, hok, hSt, hRs, hAO⟩, hr, hlk, hnm⟩ := C
  intro H locs ls hP hS hl
  exact W.vret hx hb (hr.trans hret) (fun t ht hW => ⟨⟨rfl, ad, hag, hok, by rw [ht]; exact hP⟩, hS.F ht⟩) hS.2.2 d hlk
theorem k_afterRunN {H : Heap} {locs : List Loc} {ls : Array Slot} {st0 : List Value} {rest : List MV} {a : Array Value} (hr : va_Run p l e R s m args below meth c H locs cells slots mc ms (F0 m pc ls st0) (rest.map (k_enc ad)) (k_QcN D cy ad bs ks ns mr2 mi2 ml2 a) (k_AB bs)) (hS : va_S (k_AB bs) s.heap H locs) (hl : k_LH ad ls L) (hL : k_vo ks L) (hrs : k_vo ks rest)
    (kk : ∀ ad', k_ag ks ad ad' → k_ok bs ad' (ks ++ ns) → k_V p l e R s m args below meth c D cy ad' bs (ks ++ ns) mr2 (cells + mc) (slots + ms) Q mi2 ml2 (pc + 3) L rest) : W p l e R s m args below meth c H locs cells slots Q (F0 m pc ls st0) := by
  intro T hT X
  obtain ⟨v, st₀, t, T', L1, h0, X', hL1, e1, e2, ⟨⟨hv, ad', hag, hok, hP⟩, hz, hk⟩, st⟩ := hr T hT X
  cases hv
  rw [h0] at hz hk
  have hS2 : va_S (k_AB bs) s.heap T'.heap (locs ++ L1) := ⟨Nat.le_trans hS.1 (by rw [e1]; exact hz), fun q h1 h2 => by rw [e1, hk q (Nat.lt_of_lt_of_le h1 hS.1) h2]; exact hS.2.1 q h1 h2, fun q hq => by
      rcases List.mem_append.mp hq with h | h
      · exact hS.2.2 q h
      · exact hL1 q h⟩
  obtain ⟨t2, a1, b1⟩ := kk ad' hag hok T'.heap (locs ++ L1) ls (by rw [e1]; exact hP) hS2 (k_LH_ag hag hL hl) T' rfl X'
  rw [k_st_ag hag hrs] at a1
  exact ⟨t2, st t2 a1, b1⟩
theorem k_callN (C : k_Cx p s m args meth c D cy ad bs ks M) {idx n nf' : Nat} {M' : k_M} {y : Ky} {as rest : List MV} (w : k_CI M.1.cls idx M' n) (hC : k_Cn ks ns M' nf' mc ms (vR y :: as) mr mi ml mr2 mi2 ml2) (hret : M'.2.2.2 = none) (hn : as.length = n) (hL : L.length = M.2.2.1) (hR : nf' + 1 ≤ R.frames ∧ 8 + (M'.2.2.1 + 11) + 40 * nf' ≤ R.locals) (hf : cells + mc ≤ R.cells ∧ slots + ms ≤ R.slots) (hst : st = as.reverse ++ vR y :: rest) (hrest : rest.length ≤ 4) (hLv : k_vo ks L) (hrv : k_vo ks rest) (d : decode M.2.1 pc = .ok (.invokespecial idx, 3))
    (kk2 : ∀ ad', k_ag ks ad ad' → k_Cx p s m args meth c D cy ad' bs (ks ++ ns) M → k_V p l e R s m args below meth c D cy ad' bs (ks ++ ns) mr2 (cells + mc) (slots + ms) Q mi2 ml2 (pc + 3) L rest) : k_V p l e R s m args below meth c D cy ad bs ks mr cells slots Q mi ml pc L st := by
  have C0 := C
  obtain ⟨⟨hx, hb, hml, hown, hts⟩, hF, hr, hlk, hnm⟩ := C
  obtain ⟨hbs, hK, hNW, hok, hSt, hRs, hAO⟩ := id hF
  intro H locs ls hP hS hl
  obtain ⟨hcb, hln, hin, hnm1⟩ := w
  have hPre : PreS s H (k_Pc D cy ad bs ks mr mi ml (vR y :: as)) (.ref (ad y) :: as.map (k_enc ad)) := ⟨k_Pc_blind, fun U hU hW => ⟨rfl, by rw [hU]; exact hP, by rw [hU]; exact hF.warm hW hS.1 hS.2.1⟩⟩
  have hsum : 2 * (F0 m pc ls (st.map (k_enc ad))).monitorRoom + ((rest.map (k_enc ad)).map fun v => v.category).sum ≤ 8 := lv_room (Nat.le_trans (k_catsum ad rest) (by omega))
  have hstk : st.map (k_enc ad) = (as.map (k_enc ad)).reverse ++ .ref (ad y) :: rest.map (k_enc ad) := by rw [hst, List.map_append, List.map_reverse]; rfl
  have hcb2 := id hcb
  obtain ⟨h1, h2, h3, h4, h5⟩ := hcb
  obtain ⟨yN, yB, yL, yR⟩ := M'
  dsimp only at hret
  subst hret
  rcases hln with hlw | ⟨host, hlw⟩
  · exact k_afterRunN (va_runI (nL := M.2.2.1) (Ts := k_WS) (own := M.1.cls) ⟨hx, hb, hml, hown, hts⟩ (hC l D cy ad bs) ⟨callB_of n hts (k_wmG _ n hcb2) rfl rfl rfl (hts _ h2) (hts _ hlw) ⟨h3.1, h3.2, h4⟩ hR, hnm1, hts _ hin⟩ hPre rfl (by rw [List.length_map]; exact hn) (hl.1.trans hL) hstk hsum d hf) hS hl hLv hrv (fun ad' hag hok' => kk2 ad' hag (k_Cx_ag C0 hag hok'))
  · exact k_afterRunN (va_runIN (nL := M.2.2.1) (Ts := k_WS) (own := M.1.cls) ⟨hx, hb, hml, hown, hts⟩ (hC l D cy ad bs) ⟨va_cnB n hts (k_wmG _ n hcb2) rfl rfl rfl (hNW _ hlw) (hts _ h2) ⟨h3.1, h3.2, h4⟩ hR, hnm1, hts _ hin⟩ hPre rfl (by rw [List.length_map]; exact hn) (hl.1.trans hL) hstk hsum d hf) hS hl hLv hrv (fun ad' hag hok' => kk2 ad' hag (k_Cx_ag C0 hag hok'))
theorem k_callI (C : k_Cx p s m args meth c D cy ad bs ks M) {idx n nf' : Nat} {M' : k_M} {y : Ky} {as rest : List MV} {mi1 : MemI} {ml1 : MemL} (w : k_CI M.1.cls idx M' n) (hC : k_Ct ks mr M' nf' (vR y :: as) mi ml (k_rt none mi1 ml1)) (hret : M'.2.2.2 = none) (hn : as.length = n) (hL : L.length = M.2.2.1) (hR : nf' + 1 ≤ R.frames ∧ 8 + (M'.2.2.1 + 11) + 40 * nf' ≤ R.locals) (hf : cells ≤ R.cells ∧ slots ≤ R.slots) (hst : st = as.reverse ++ vR y :: rest) (hrest : rest.length ≤ 4) (d : decode M.2.1 pc = .ok (.invokespecial idx, 3))
    (kk2 : k_V p l e R s m args below meth c D cy ad bs ks mr cells slots Q mi1 ml1 (pc + 3) L rest) : k_V p l e R s m args below meth c D cy ad bs ks mr cells slots Q mi ml pc L st := by
  obtain ⟨⟨hx, hb, hml, hown, hts⟩, hF, hr, hlk, hnm⟩ := C
  obtain ⟨hbs, hK, hNW, hok, hSt, hRs, hAO⟩ := id hF
  intro H locs ls hP hS hl
  obtain ⟨hcb, hln, hin, hnm1⟩ := w
  have hPre : PreS s H (k_Pc D cy ad bs ks mr mi ml (vR y :: as)) (.ref (ad y) :: as.map (k_enc ad)) := ⟨k_Pc_blind, fun U hU hW => ⟨rfl, by rw [hU]; exact hP, by rw [hU]; exact hF.warm hW hS.1 hS.2.1⟩⟩
  have hsum : 2 * (F0 m pc ls (st.map (k_enc ad))).monitorRoom + ((rest.map (k_enc ad)).map fun v => v.category).sum ≤ 8 := lv_room (Nat.le_trans (k_catsum ad rest) (by omega))
  have hstk : st.map (k_enc ad) = (as.map (k_enc ad)).reverse ++ .ref (ad y) :: rest.map (k_enc ad) := by rw [hst, List.map_append, List.map_reverse]; rfl
  have hcb2 := id hcb
  obtain ⟨h1, h2, h3, h4, h5⟩ := hcb
  obtain ⟨yN, yB, yL, yR⟩ := M'
  dsimp only at hret
  subst hret
  have fin : ∀ (r : Option MV) (mi' : MemI) (ml' : MemL), k_rt none mi1 ml1 r mi' ml' → k_V p l e R s m args below meth c D cy ad bs ks mr cells slots Q mi' ml' (pc + 3) L (r.toList ++ rest) := fun r mi' ml' hh => by
    obtain ⟨a1, a2, a3⟩ := hh
    subst a1 a2 a3
    exact kk2
  rcases hln with hlw | ⟨host, hlw⟩
  · exact k_afterRun (va_runI (nL := M.2.2.1) (Ts := k_WS) (own := M.1.cls) ⟨hx, hb, hml, hown, hts⟩ (hC l D cy ad bs) ⟨callB_of n hts (k_wmG _ n hcb2) rfl rfl rfl (hts _ h2) (hts _ hlw) ⟨h3.1, h3.2, h4⟩ hR, hnm1, hts _ hin⟩ hPre rfl (by rw [List.length_map]; exact hn) (hl.1.trans hL) hstk hsum d hf) hS hl fin
  · exact k_afterRun (va_runIN (nL := M.2.2.1) (Ts := k_WS) (own := M.1.cls) ⟨hx, hb, hml, hown, hts⟩ (hC l D cy ad bs) ⟨va_cnB n hts (k_wmG _ n hcb2) rfl rfl rfl (hNW _ hlw) (hts _ h2) ⟨h3.1, h3.2, h4⟩ hR, hnm1, hts _ hin⟩ hPre rfl (by rw [List.length_map]; exact hn) (hl.1.trans hL) hstk hsum d hf) hS hl fin
/-- a contract out of a walk from the entry -/
theorem k_ofVN {nf mc ms : Nat} {ns : List Ky} {mr2 : MemR} {mi2 : MemI} {ml2 : MemL} {as L0 : List MV} (hy : plainName M.1.cls = true) (hle : (k_ex as).length ≤ M.2.2.1) (hu : as.all (fun v => !k_isU v) = true) (hL : k_ex as ++ List.replicate (M.2.2.1 - (k_ex as).length) vU = L0)
    (body : ∀ (p : Program) (l : Launch) (e : Env) (s : State) (m : MethodId) (args : Array Value) (below : List Frame) (meth : Method) (c : Code) (D : va_G) (cy : Nat → ClassId) (ad : Ky → Nat) (bs : Nat), k_Cx p s m args meth c D cy ad bs ks M → k_V p l e (k_rmN nf mc ms) s m args below meth c D cy ad bs ks mr 0 0 (k_EndN below D cy ad bs ks ns mr2 mi2 ml2 mc ms args s) mi ml (0) (L0) ([])) : k_Cn ks ns M nf mc ms as mr mi ml mr2 mi2 ml2 := by
  intro l D cy ad bs
  refine Met.ofW (cc := M.2.1) (maxL := M.2.2.1) (ret := M.2.2.2) hy rfl ?_
  intro p e s m args below meth c s₁ B hml hv
  obtain ⟨rfl, hP, hF⟩ := hv
  have hts := atoms_spec (ws := k_wm M) B.pre
  have hown : s.vm.findClass M.1.cls = some m.cls := findClass_of_methodNamed B.named
  have C : k_Cx p s m (as.map (k_enc ad)).toArray meth c D cy ad bs ks M := ⟨⟨B.exec, B.bytes, hml, hown, fun w hw => hts w (List.mem_cons_of_mem _ hw)⟩, hF, B.returns, B.notSynchronized, (name_of_methodNamed B.named B.method).1⟩
  have hsl : ∀ xs : List MV, (lg_sl (xs.map (k_enc ad))).length = (k_ex xs).length := by
    intro xs
    induction xs with
    | nil => rfl
    | cons x xs ih =>
      simp only [lg_sl, k_ex, List.map_cons, List.flatMap_cons, List.length_append] at ih ⊢
      rw [ih]
      by_cases h : k_isL x = true
      · rw [if_pos (k_enc_cat.mpr h), if_pos h]; rfl
      · rw [if_neg (fun q => h (k_enc_cat.mp q)), if_neg h]; rfl
  have hl := lv_entry (as.map (k_enc ad)) (n := M.2.2.1) (by rw [hsl]; exact hle)
  rw [lg_entry_eq]
  have harg : ∀ (xs : List MV) (i0 i : Nat) (v : MV), (k_ex xs)[i]? = some v → k_isU v = false → (∀ y ∈ xs, k_isU y = false) → (i0 + i, k_enc ad v) ∈ lv_args i0 (xs.map (k_enc ad)) := by
    intro xs
    induction xs with
    | nil => intro i0 i v h; simp [k_ex] at h
    | cons x xs ih =>
      intro i0 i v h hu hxs
      by_cases hx : k_isL x = true
      · have hc := (k_enc_cat (ad := ad)).mpr hx
        simp only [k_ex, List.flatMap_cons, if_pos hx] at h
        simp only [List.map_cons, lv_args, if_pos hc]
        match i, h with
        | 0, h => simp at h; subst h; exact List.mem_cons_self
        | 1, h => simp at h; subst h; cases hu
        | i + 2, h =>
          have := ih (i0 + 2) i v (by simpa [k_ex] using h) hu (fun y hy => hxs y (List.mem_cons_of_mem _ hy))
          exact List.mem_cons_of_mem _ (by rw [show i0 + (i + 2) = i0 + 2 + i by omega]; exact this)
      · have hc : ¬ (k_enc ad x).category = 2 := fun q => hx (k_enc_cat.mp q)
        simp only [k_ex, List.flatMap_cons, if_neg hx] at h
        simp only [List.map_cons, lv_args, if_neg hc]
        match i, h with
        | 0, h => simp at h; subst h; exact List.mem_cons_self
        | i + 1, h =>
          have := ih (i0 + 1) i v (by simpa [k_ex] using h) hu (fun y hy => hxs y (List.mem_cons_of_mem _ hy))
          exact List.mem_cons_of_mem _ (by rw [show i0 + (i + 1) = i0 + 1 + i by omega]; exact this)
  subst hL
  have hu2 : ∀ y ∈ as, k_isU y = false := fun y hy => by
    have := List.all_eq_true.mp hu y hy
    simpa using this
  refine body p l e s m _ below meth c D cy ad bs C s.heap [] _ hP va_S.rf ⟨hl.1.trans ?_, hl.2.1, fun i v hi hv => ?_⟩
  · rw [List.length_append, List.length_replicate]
    omega
  · rw [List.getElem?_append] at hi
    split at hi
    · have h2 := harg as 0 i v hi hv hu2
      rw [Nat.zero_add] at h2
      exact hl.2.2 _ h2
    · rw [List.getElem?_replicate] at hi
      split at hi
      · cases hi
        cases hv
      · cases hi
end KT2
