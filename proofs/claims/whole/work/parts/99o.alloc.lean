/-! rows that make cells -/
def k_cl (mr : MemR) (ks : List Ky) : Prop := ∀ k j y, mr k j = some y → y ∈ ks
theorem k_cl_app {mr : MemR} {ks t : List Ky} (h : k_cl mr ks) : k_cl mr (ks ++ t) := fun k j y e => List.mem_append_left _ (h k j y e)
theorem k_cl_ur {mr : MemR} {ks : List Ky} {k : Ky} {j : Nat} {v : Ky} (h : k_cl mr ks) (hv : v ∈ ks) : k_cl (k_ur mr k j (some v)) ks := fun k' j' y e => by
  by_cases c : k' = k ∧ j' = j
  · have : k_ur mr k j (some v) k' j' = some v := if_pos c
    rw [this] at e; cases e; exact hv
  · have : k_ur mr k j (some v) k' j' = mr k' j' := if_neg c
    rw [this] at e; exact h k' j' y e
def k_ag (ks : List Ky) (ad ad' : Ky → Nat) : Prop := ∀ k, k ∈ ks ∨ 13 ≤ k.1 → ad' k = ad k
theorem k_cell_ag {cy : Nat → ClassId} {ad ad' : Ky → Nat} {ks : List Ky} {mr : MemR} {mi : MemI} {ml : MemL} {k : Ky} (ha : k_ag ks ad ad') (hc : k_cl mr ks) : k_cell cy ad' mr mi ml k = k_cell cy ad mr mi ml k := by
  have hm : ∀ j, (mr k j).map ad' = (mr k j).map ad := fun j => by
    cases e : mr k j with
    | none => rfl
    | some y => exact congrArg some (ha y (Or.inl (hc k j y e)))
  unfold k_cell
  simp only [hm]
theorem k_ws_ag {cy : Nat → ClassId} {ad ad' : Ky → Nat} {ks : List Ky} {mr : MemR} {mi : MemI} {ml : MemL} (ha : k_ag ks ad ad') (hc : k_cl mr ks) : k_ws cy ad' ks mr mi ml = k_ws cy ad ks mr mi ml := by
  unfold k_ws
  refine List.map_congr_left (fun k hk => ?_)
  rw [k_cell_ag ha hc, ha k (Or.inl hk)]
def k_ax (ad : Ky → Nat) (kk : Ky) (a : Nat) : Ky → Nat := fun k => if k = kk then a else ad k
theorem k_ax_ag {ad : Ky → Nat} {ks : List Ky} {kk : Ky} {a : Nat} (hn : kk ∉ ks) (h13 : kk.1 < 13) : k_ag ks ad (k_ax ad kk a) := fun k hk => if_neg (fun e => by
  rcases hk with h | h
  · rw [e] at h; exact hn h
  · rw [e] at h; omega)
theorem k_ws_ax {cy : Nat → ClassId} {ad : Ky → Nat} {ks : List Ky} {kk : Ky} {a : Nat} {mr : MemR} {mi : MemI} {ml : MemL} (hn : kk ∉ ks) (h13 : kk.1 < 13) (hc : k_cl mr ks) : k_ws cy (k_ax ad kk a) (ks ++ [kk]) mr mi ml = k_ws cy ad ks mr mi ml ++ [(a, k_cell cy ad mr mi ml kk)] := by
  have e := k_ws_ag (cy := cy) (mi := mi) (ml := ml) (k_ax_ag (ad := ad) (a := a) hn h13) hc
  unfold k_ws at e ⊢
  rw [List.map_append, e]
  show _ ++ [(k_ax ad kk a kk, k_cell cy (k_ax ad kk a) mr mi ml kk)] = _
  rw [k_cell_ag (k_ax_ag hn h13) hc, show k_ax ad kk a kk = a from if_pos rfl]
/-- from the world's apartness to the keys' -/
theorem k_ok_of {bs : Nat} {cy : Nat → ClassId} {ad : Ky → Nat} {ks : List Ky} {mr : MemR} {mi : MemI} {ml : MemL} (h : va_D (k_AB bs) (k_ws cy ad ks mr mi ml)) : k_ok bs ad ks := by
  refine ⟨fun i j k k' hi hj e => h.1 i j (ad k, k_cell cy ad mr mi ml k) (ad k', k_cell cy ad mr mi ml k') ?_ ?_ e, fun k hk => ?_⟩
  · unfold k_ws; rw [List.getElem?_map, hi]; rfl
  · unfold k_ws; rw [List.getElem?_map, hj]; rfl
  · obtain ⟨n, -, hn⟩ := k_at (cy := cy) (ad := ad) (mr := mr) (mi := mi) (ml := ml) hk
    exact h.2 n _ hn
def k_vo (ks : List Ky) (L : List MV) : Prop := ∀ v ∈ L, ∀ y, v = vR y → y ∈ ks ∨ 13 ≤ y.1
theorem k_enc_ag {ad ad' : Ky → Nat} {ks : List Ky} {v : MV} (ha : k_ag ks ad ad') (h : ∀ y, v = vR y → y ∈ ks ∨ 13 ≤ y.1) : k_enc ad' v = k_enc ad v := by
  rcases v with x | x | r | u
  · rfl
  · rfl
  · cases r with
    | none => rfl
    | some y =>
      show va_rf (some (ad' y)) = va_rf (some (ad y))
      rw [ha y (h y rfl)]
  · rfl
theorem k_st_ag {ad ad' : Ky → Nat} {ks : List Ky} {st : List MV} (ha : k_ag ks ad ad') (h : k_vo ks st) : st.map (k_enc ad') = st.map (k_enc ad) := List.map_congr_left (fun v hv => k_enc_ag ha (h v hv))
theorem k_LH_ag {ad ad' : Ky → Nat} {ks : List Ky} {ls : Array Slot} {L : List MV} (ha : k_ag ks ad ad') (h : k_vo ks L) (hl : k_LH ad ls L) : k_LH ad' ls L := by
  refine ⟨hl.1, hl.2.1, fun i v hi hu => ?_⟩
  rw [k_enc_ag ha (h v (List.mem_of_getElem? hi))]
  exact hl.2.2 i v hi hu
theorem k_St_ag {ad ad' : Ky → Nat} {ks : List Ky} {bs : Nat} {U : State} {H : Heap} (ha : k_ag ks ad ad') (h : k_St ad bs U H) : k_St ad' bs U H := by
  have e14 : (fun i => ad' (14, i, 0)) = fun i => ad (14, i, 0) := funext (fun i => ha _ (Or.inr (show 13 ≤ 14 by decide)))
  have e15 : (fun i => ad' (15, i, 0)) = fun i => ad (15, i, 0) := funext (fun i => ha _ (Or.inr (show 13 ≤ 15 by decide)))
  unfold k_St at h ⊢
  rw [e14, e15, ha (13, 0, 0) (Or.inr (show 13 ≤ 13 by decide)), ha (13, 1, 0) (Or.inr (show 13 ≤ 13 by decide)), ha (16, 0, 0) (Or.inr (show 13 ≤ 16 by decide))]
  exact h
section KN
variable {p : Program} {l : Launch} {e : Env} {R : Room} {s : State} {m : MethodId} {args : Array Value} {below : List Frame} {meth : Method} {c : Code} {D : va_G} {cy : Nat → ClassId} {ad ad' : Ky → Nat} {bs : Nat} {ks ks' : List Ky} {mr : MemR} {cells slots : Nat} {Q : State → Prop} {mi : MemI} {ml : MemL} {pc : Nat} {L st : List MV} {M : k_M}
theorem k_Cx_ag (C : k_Cx p s m args meth c D cy ad bs ks M) (ha : k_ag ks ad ad') (hok : k_ok bs ad' ks') : k_Cx p s m args meth c D cy ad' bs ks' M := by
  obtain ⟨h1, ⟨hbs, hK, hNW, -, hSt, hRs, hAO⟩, h3⟩ := C
  refine ⟨h1, ⟨hbs, hK, hNW, hok, k_St_ag ha hSt, fun w q hw => ?_, hAO⟩, h3⟩
  rw [ha (14, w, 0) (Or.inr (show 13 ≤ 14 by decide))]
  exact hRs w q hw
/-- an object -/
theorem k_newO (C : k_Cx p s m args meth c D cy ad bs ks M) (hcl : k_cl mr ks) {kk : Ky} {ci idx : Nat} {q : vw_C} (ty : Nat → FieldType) (hq : k_CL ci q) (hc : kk.1 = ci) (hn : kk ∉ ks) (hz : ∀ j, mi kk j = 0) (hzr : ∀ j, mr kk j = none)
    (hty : ∀ k, k < q.2.2 → parseFieldDescriptor (q.2.1 k).2.2.1 = some (ty k)) (hdef : ∀ j, j < q.2.2 → defaultValue (ty j) = if k_rf ci j = true then .null else .int 0)
    (hwl : Cond.classLink M.1.cls idx q.1 ∈ k_WS) (hwi : Cond.instantiable q.1 q.2.2 ∈ k_WS) (hwn : Cond.initialized q.1 ∈ k_WS) (hL : k_vo ks L) (hst : k_vo ks st) (hcells : cells + 1 ≤ R.cells) (hslots : slots + q.2.2 ≤ R.slots) (d : decode M.2.1 pc = .ok (.new idx, 3))
    (k : ∀ ad', k_ag ks ad ad' → k_Cx p s m args meth c D cy ad' bs (ks ++ [kk]) M → k_V p l e R s m args below meth c D cy ad' bs (ks ++ [kk]) mr (cells + 1) (slots + q.2.2) Q mi ml (pc + 3) L (vR kk :: st)) : k_V p l e R s m args below meth c D cy ad bs ks mr cells slots Q mi ml pc L st := by
  have C0 := C
  obtain ⟨⟨hx, hb, hml, hown, hts⟩, ⟨hbs, hK, hNW, hok, hSt, hRs, hAO⟩, hr, hlk, hnm⟩ := C
  obtain ⟨h8, hqc, hN, hin, -, -⟩ := hq
  have h13 : kk.1 < 13 := by omega
  intro H locs ls hP hS hl
  refine va_new (A := k_AB bs) (tys := k_TY cy) (cl := vwCl) (D := D) (c0 := c) hx hb hts hin ty hty hown (hts _ hwl) (hts _ hwi) (hts _ hwn) hK hP (k_okD hok cy mr mi ml) hS (fun x hx => Nat.le_trans hbs hx) hqc (fs := (List.range (k_nF ci)).map (fun j => if k_rf ci j = true then .null else .int 0)) (fun j hj => ?_) hcells hslots d (fun qa H1 hP1 hD1 hS1 => ?_)
  · rw [hdef j hj]
    unfold vp_V
    rw [List.getD_eq_getElem?_getD, List.getElem?_map, List.getElem?_range (by omega)]
    rfl
  · have ecell : (Sum.inr (ci, (List.range (k_nF ci)).map (fun j => if k_rf ci j = true then Value.null else .int 0)) : va_E) = k_cell cy ad mr mi ml kk := by
      unfold k_cell
      rw [if_pos (show kk.1 < 8 by omega), hc]
      congr 2
      refine List.map_congr_left (fun j _ => ?_)
      rw [hzr j, hz j]
      rfl
    rw [ecell] at hP1 hD1
    rw [← k_ws_ax hn h13 hcl] at hP1 hD1
    have ag : k_ag ks ad (k_ax ad kk qa) := k_ax_ag hn h13
    have r := k (k_ax ad kk qa) ag (k_Cx_ag C0 ag (k_ok_of hD1)) H1 locs ls hP1 hS1 (k_LH_ag ag hL hl)
    have est : (vR kk :: st).map (k_enc (k_ax ad kk qa)) = .ref qa :: st.map (k_enc ad) := by
      show k_enc (k_ax ad kk qa) (vR kk) :: st.map (k_enc (k_ax ad kk qa)) = _
      rw [k_st_ag ag hst]
      show va_rf (some (k_ax ad kk qa kk)) :: _ = _
      rw [show k_ax ad kk qa kk = qa from if_pos rfl]
      rfl
    rw [est] at r
    exact r
end KN
