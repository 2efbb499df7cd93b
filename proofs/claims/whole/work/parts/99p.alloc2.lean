/-! rows that make arrays; stores of references; constructors' calls -/
theorem wa_I : Cond.arrayClass .int ∈ k_WS := k_inWS 229 (by decide +kernel) (by decide)
theorem wa_L : Cond.arrayClass .long ∈ k_WS := k_inWS 275 (by decide +kernel) (by decide)
theorem wo_i : Cond.instanceMethod Lib.objectInit ∈ k_WS := k_inWS 21 (by decide +kernel) (by decide)
theorem wo_c : Cond.code Lib.objectInit ⟨#[0xb1]⟩ 1 none ∈ k_WS := k_inWS 22 (by decide +kernel) (by decide)
section KM
variable {p : Program} {l : Launch} {e : Env} {R : Room} {s : State} {m : MethodId} {args : Array Value} {below : List Frame} {meth : Method} {c : Code} {D : va_G} {cy : Nat → ClassId} {ad ad' : Ky → Nat} {bs : Nat} {ks ks' : List Ky} {mr : MemR} {cells slots : Nat} {Q : State → Prop} {mi : MemI} {ml : MemL} {pc : Nat} {L st : List MV} {M : k_M}
/-- what is left of a row that makes the cell kk -/
theorem k_newE (C : k_Cx p s m args meth c D cy ad bs ks M) (hcl : k_cl mr ks) {kk : Ky} (hn : kk ∉ ks) (h13 : kk.1 < 13) (hL : k_vo ks L) (hst : k_vo ks st) {cells' slots' pc' qa : Nat} {H1 : Heap} {locs : List Loc} {ls : Array Slot} {ev : va_E} (ecell : ev = k_cell cy ad mr mi ml kk)
    (hP1 : va_P D vwCl (k_ws cy ad ks mr mi ml ++ [(qa, ev)]) H1) (hD1 : va_D (k_AB bs) (k_ws cy ad ks mr mi ml ++ [(qa, ev)])) (hS1 : va_S (k_AB bs) s.heap H1 locs) (hl : k_LH ad ls L)
    (k : ∀ ad', k_ag ks ad ad' → k_Cx p s m args meth c D cy ad' bs (ks ++ [kk]) M → k_V p l e R s m args below meth c D cy ad' bs (ks ++ [kk]) mr cells' slots' Q mi ml pc' L (vR kk :: st)) : W p l e R s m args below meth c H1 locs cells' slots' Q (F0 m pc' ls (.ref qa :: st.map (k_enc ad))) := by
  rw [ecell] at hP1 hD1
  rw [← k_ws_ax hn h13 hcl] at hP1 hD1
  have ag : k_ag ks ad (k_ax ad kk qa) := k_ax_ag hn h13
  have r := k (k_ax ad kk qa) ag (k_Cx_ag C ag (k_ok_of hD1)) H1 locs ls hP1 hS1 (k_LH_ag ag hL hl)
  have est : (vR kk :: st).map (k_enc (k_ax ad kk qa)) = .ref qa :: st.map (k_enc ad) := by
    show k_enc (k_ax ad kk qa) (vR kk) :: st.map (k_enc (k_ax ad kk qa)) = _
    rw [k_st_ag ag hst]
    show va_rf (some (k_ax ad kk qa kk)) :: _ = _
    rw [show k_ax ad kk qa kk = qa from if_pos rfl]
    rfl
  rw [est] at r
  exact r
theorem k_newI (C : k_Cx p s m args meth c D cy ad bs ks M) (hcl : k_cl mr ks) (kk : Ky) {N : Nat} {x : Int32} (hc : kk.1 = 8) (hN : k_ln kk = N) (hx : x = nI N) (hN2 : N < 10000) (hn : kk ∉ ks) (hz : ∀ j, mi kk j = 0) (hL : k_vo ks L) (hst : k_vo ks st) (hcells : cells + 1 ≤ R.cells) (hslots : slots + N ≤ R.slots) (d : decode M.2.1 pc = .ok (.newarray .int, 2))
    (k : ∀ ad', k_ag ks ad ad' → k_Cx p s m args meth c D cy ad' bs (ks ++ [kk]) M → k_V p l e R s m args below meth c D cy ad' bs (ks ++ [kk]) mr (cells + 1) (slots + N) Q mi ml (pc + 2) L (vR kk :: st)) : k_V p l e R s m args below meth c D cy ad bs ks mr cells slots Q mi ml pc L (vI x :: st) := by
  have C0 := C
  obtain ⟨⟨hxx, hb, hml, hown, hts⟩, ⟨hbs, hK, hNW, hok, hSt, hRs, hAO⟩, hr, hlk, hnm⟩ := C
  subst hx
  intro H locs ls hP hS hl
  refine va_newa (A := k_AB bs) (atype := .int) (ty := .int) (a0 := (N, .inl (fun _ => 0))) (N' := N) hxx hb (hts _ wa_I) rfl hK hP (k_okD hok cy mr mi ml) hS (fun y hy => Nat.le_trans hbs hy) (fun _ => rfl) (nI_pos (by omega)) (nI_clamp (by omega)) (by show N * 4 ≤ _; omega) hcells hslots d (fun qa cA H1 hK1 hP1 hD1 hS1 => ?_)
  have ecA : cA = cy 8 := Option.some.inj (((hK1.2 5 (cA, .int) rfl).2).symm.trans (hK.2 0 (cy 8, .int) rfl).2)
  subst ecA
  refine k_newE (cells' := cells + 1) (slots' := slots + N) (pc' := pc + 2) C0 hcl hn (by omega) hL hst ?_ hP1 hD1 hS1 hl k
  unfold k_cell
  rw [if_neg (show ¬ kk.1 < 8 by omega), if_pos hc, hN, show mi kk = fun _ => 0 from funext hz]
theorem k_newL (C : k_Cx p s m args meth c D cy ad bs ks M) (hcl : k_cl mr ks) (kk : Ky) {N : Nat} {x : Int32} (hc : kk.1 = 9) (hN : k_ln kk = N) (hx : x = nI N) (hN2 : N < 10000) (hn : kk ∉ ks) (hz : ∀ j, ml kk j = 0) (hL : k_vo ks L) (hst : k_vo ks st) (hcells : cells + 1 ≤ R.cells) (hslots : slots + N ≤ R.slots) (d : decode M.2.1 pc = .ok (.newarray .long, 2))
    (k : ∀ ad', k_ag ks ad ad' → k_Cx p s m args meth c D cy ad' bs (ks ++ [kk]) M → k_V p l e R s m args below meth c D cy ad' bs (ks ++ [kk]) mr (cells + 1) (slots + N) Q mi ml (pc + 2) L (vR kk :: st)) : k_V p l e R s m args below meth c D cy ad bs ks mr cells slots Q mi ml pc L (vI x :: st) := by
  have C0 := C
  obtain ⟨⟨hxx, hb, hml, hown, hts⟩, ⟨hbs, hK, hNW, hok, hSt, hRs, hAO⟩, hr, hlk, hnm⟩ := C
  subst hx
  intro H locs ls hP hS hl
  refine va_newa (A := k_AB bs) (atype := .long) (ty := .long) (a0 := (N, .inr (.inl (fun _ => 0)))) (N' := N) hxx hb (hts _ wa_L) rfl hK hP (k_okD hok cy mr mi ml) hS (fun y hy => Nat.le_trans hbs hy) (fun _ => rfl) (nI_pos (by omega)) (nI_clamp (by omega)) (by show N * 8 ≤ _; omega) hcells hslots d (fun qa cA H1 hK1 hP1 hD1 hS1 => ?_)
  have ecA : cA = cy 9 := Option.some.inj (((hK1.2 5 (cA, .long) rfl).2).symm.trans (hK.2 1 (cy 9, .long) rfl).2)
  subst ecA
  refine k_newE (cells' := cells + 1) (slots' := slots + N) (pc' := pc + 2) C0 hcl hn (by omega) hL hst ?_ hP1 hD1 hS1 hl k
  unfold k_cell
  rw [if_neg (show ¬ kk.1 < 8 by omega), if_neg (show ¬ kk.1 = 8 by omega), if_pos hc, hN, show ml kk = fun _ => 0 from funext hz]
theorem k_newQ (C : k_Cx p s m args meth c D cy ad bs ks M) (hcl : k_cl mr ks) (kk : Ky) {N t0 idx : Nat} {x : Int32} {E : String} (hc : 10 ≤ kk.1 ∧ kk.1 ≤ 12) (ht : (k_TY cy)[t0]? = some (cy kk.1, .object E)) (hAE : va_AO E s) (hN : k_ln kk = N) (hx : x = nI N) (hN2 : N < 10000) (hn : kk ∉ ks) (hz : ∀ j, mr kk j = none) (hwl : Cond.classLink M.1.cls idx E ∈ k_WS) (hL : k_vo ks L) (hst : k_vo ks st) (hcells : cells + 1 ≤ R.cells) (hslots : slots + N ≤ R.slots) (d : decode M.2.1 pc = .ok (.anewarray idx, 3))
    (k : ∀ ad', k_ag ks ad ad' → k_Cx p s m args meth c D cy ad' bs (ks ++ [kk]) M → k_V p l e R s m args below meth c D cy ad' bs (ks ++ [kk]) mr (cells + 1) (slots + N) Q mi ml (pc + 3) L (vR kk :: st)) : k_V p l e R s m args below meth c D cy ad bs ks mr cells slots Q mi ml pc L (vI x :: st) := by
  have C0 := C
  obtain ⟨⟨hxx, hb, hml, hown, hts⟩, ⟨hbs, hK, hNW, hok, hSt, hRs, hAO⟩, hr, hlk, hnm⟩ := C
  subst hx
  intro H locs ls hP hS hl
  refine va_newq (A := k_AB bs) (C := E) (N' := N) hxx hb hown (hts _ hwl) hAE hK hP (k_okD hok cy mr mi ml) hS (fun y hy => Nat.le_trans hbs hy) (nI_pos (by omega)) (nI_clamp (by omega)) (by omega) hcells hslots d (fun qa cA H1 hK1 hP1 hD1 hS1 => ?_)
  have ecA : cA = cy kk.1 := by
    obtain ⟨_, _, _, _, _, a⟩ := (hK1.2 5 (cA, .object E) rfl).2
    obtain ⟨_, _, _, _, _, b⟩ := (hK.2 t0 _ ht).2
    exact Option.some.inj (a.symm.trans b)
  subst ecA
  refine k_newE (cells' := cells + 1) (slots' := slots + N) (pc' := pc + 3) C0 hcl hn (by omega) hL hst ?_ hP1 hD1 hS1 hl k
  unfold k_cell
  rw [if_neg (show ¬ kk.1 < 8 by omega), if_neg (show ¬ kk.1 = 8 by omega), if_neg (show ¬ kk.1 = 9 by omega), hN, show mr kk = fun _ => none from funext hz]
  rfl
/-- an object into an array -/
theorem k_aast (C : k_Cx p s m args meth c D cy ad bs ks M) {kk y : Ky} {i : Int32} {j t0 : Nat} {q : vw_C} (hk : kk ∈ ks) (hc : 10 ≤ kk.1 ∧ kk.1 ≤ 12) (ht : (k_TY cy)[t0]? = some (cy kk.1, .object q.1)) (hy : y ∈ ks) (hy8 : y.1 < 8) (hq : vwCl[y.1]? = some q) (hin : vp_in i (k_ln kk)) (hj : i.toNatClampNeg = j) (d : decode M.2.1 pc = .ok (.aastore, 1))
    (k : k_V p l e R s m args below meth c D cy ad bs ks (k_ur mr kk j (some y)) cells slots Q mi ml (pc + 1) L st) : k_V p l e R s m args below meth c D cy ad bs ks mr cells slots Q mi ml pc L (vR y :: vI i :: vR kk :: st) := by
  obtain ⟨⟨hxx, hb, hml, hown, hts⟩, ⟨hbs, hK, hNW, hok, hSt, hRs, hAO⟩, hr, hlk, hnm⟩ := C
  subst hj
  intro H locs ls hP hS hl
  obtain ⟨n1, hn1, hw1⟩ := k_at (cy := cy) (ad := ad) (mr := mr) (mi := mi) (ml := ml) hk
  obtain ⟨n2, hn2, hw2⟩ := k_at (cy := cy) (ad := ad) (mr := mr) (mi := mi) (ml := ml) hy
  have e1 : ∀ (mr : MemR), k_cell cy ad mr mi ml kk = .inl (cy kk.1, k_ln kk, .inr (.inr (.inr (.inr (fun j => (mr kk j).map ad))))) := fun mr => by
    unfold k_cell
    rw [if_neg (show ¬ kk.1 < 8 by omega), if_neg (show ¬ kk.1 = 8 by omega), if_neg (show ¬ kk.1 = 9 by omega)]
  rw [e1] at hw1
  rw [k_cellO rfl hy8] at hw2
  have hset := k_set (bs := bs) (cy := cy) (ad := ad) (mr := mr) (mr' := k_ur mr kk i.toNatClampNeg (some y)) (mi := mi) (mi' := mi) (ml := ml) (ml' := ml) (k := kk) (e := .inl (cy kk.1, k_ln kk, .inr (.inr (.inr (.inr (va_up (fun j => (mr kk j).map ad) i.toNatClampNeg (some (ad y)))))))) hok hn1 (by
    rw [e1]
    congr 7
    funext j
    unfold va_up k_ur
    by_cases e : j = i.toNatClampNeg
    · rw [if_pos e, if_pos ⟨rfl, e⟩]; rfl
    · rw [if_neg e, if_neg (fun z => e z.2)]) (fun k' hk' => k_cell_eq rfl rfl (k_ur_ne hk'))
  refine va_astq (A := k_AB bs) hxx hb hK hP (k_okD hok cy mr mi ml) hS n1 t0 n2 y.1 hw1 ht hw2 hq hin d (fun H1 locs1 hP1 hD1 hS1 => ?_)
  exact k H1 locs1 ls (by rw [← hset]; exact hP1) hS1 hl
/-- Object's constructor -/
theorem k_objI (C : k_Cx p s m args meth c D cy ad bs ks M) {kk : Ky} {idx : Nat} (hw : Cond.methodLink M.1.cls idx Lib.objectInit ∈ k_WS) (hL : L.length = M.2.2.1) (hR : 1 ≤ R.frames ∧ 20 ≤ R.locals) (hrest : st.length ≤ 4) (d : decode M.2.1 pc = .ok (.invokespecial idx, 3)) (k : k_V p l e R s m args below meth c D cy ad bs ks mr cells slots Q mi ml (pc + 3) L st) : k_V p l e R s m args below meth c D cy ad bs ks mr cells slots Q mi ml pc L (vR kk :: st) := by
  obtain ⟨⟨hxx, hb, hml, hown, hts⟩, ⟨hbs, hK, hNW, hok, hSt, hRs, hAO⟩, hr, hlk, hnm⟩ := C
  intro H locs ls hP hS hl
  have hsum : 2 * (F0 m pc ls ((vR kk :: st).map (k_enc ad))).monitorRoom + ((st.map (k_enc ad)).map fun v => v.category).sum ≤ 8 := lv_room (Nat.le_trans (k_catsum ad st) (by omega))
  exact W.objInit hxx hb hown (hts _ hw) (hts _ wo_i) (hts _ wo_c) rfl (by rw [hml]; exact hl.1.trans hL) rfl d hR.1 (by omega) (k H locs ls hP hS hl)
end KM
