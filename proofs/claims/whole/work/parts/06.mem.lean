/-! fields, arrays, statics, returns, calls over 'k_V' -/
/-- what holds of a class of vwCl -/
def k_CL (ci : Nat) (q : vw_C) : Prop := ci < 8 ∧ vwCl[ci]? = some q ∧ q.2.2 = k_nF ci ∧ (∀ w ∈ u_ws q.1 q.2.1 q.2.2, w ∈ k_WS) ∧ (∃ ty0 : Nat → FieldType, ∀ k, k < q.2.2 → parseFieldDescriptor (q.2.1 k).2.2.1 = some (ty0 k)) ∧ (∀ a, a < q.2.2 → ∀ b, b < q.2.2 → a ≠ b → (q.2.1 a).2.1 ≠ (q.2.1 b).2.1)
/-- entry idx of own's pool is field j of class ci -/
def k_FL (own : String) (idx ci j : Nat) : Prop := ∃ q : vw_C, k_CL ci q ∧ j < q.2.2 ∧ (Cond.fieldLink own idx (q.2.1 j).1 (q.2.1 j).2.1 (q.2.1 j).2.2.1 ∈ k_WS ∨ ∃ host, Cond.fieldLinkNest own idx (q.2.1 j).1 (q.2.1 j).2.1 (q.2.1 j).2.2.1 host ∈ k_NW)
/-- the same for writing: its type, and whether it is final (then in a constructor of its own alone) -/
def k_PL (own : String) (idx ci j : Nat) (ty : FieldType) (fin : Bool) : Prop := ∃ q : vw_C, k_CL ci q ∧ j < q.2.2 ∧ (Cond.fieldLink own idx (q.2.1 j).1 (q.2.1 j).2.1 (q.2.1 j).2.2.1 ∈ k_WS ∨ (fin = false ∧ ∃ host, Cond.fieldLinkNest own idx (q.2.1 j).1 (q.2.1 j).2.1 (q.2.1 j).2.2.1 host ∈ k_NW)) ∧ (q.2.1 j).2.2.2 = fin ∧ parseFieldDescriptor (q.2.1 j).2.2.1 = some ty ∧ (fin = true → (q.2.1 j).1 = own)
theorem k_cellO {cy : Nat → ClassId} {ad : Ky → Nat} {mr : MemR} {mi : MemI} {ml : MemL} {k : Ky} {ci : Nat} (hc : k.1 = ci) (h8 : ci < 8) : k_cell cy ad mr mi ml k = .inr (ci, (List.range (k_nF ci)).map (fun j => if k_rf ci j = true then va_rf ((mr k j).map ad) else .int (mi k j))) := by
  subst hc
  simp [k_cell, h8]
theorem k_cellI {cy : Nat → ClassId} {ad : Ky → Nat} {mr : MemR} {mi : MemI} {ml : MemL} {k : Ky} (hc : k.1 = 8) : k_cell cy ad mr mi ml k = .inl (cy 8, k_ln k, .inl (mi k)) := by
  simp [k_cell, hc]
theorem k_cellL {cy : Nat → ClassId} {ad : Ky → Nat} {mr : MemR} {mi : MemI} {ml : MemL} {k : Ky} (hc : k.1 = 9) : k_cell cy ad mr mi ml k = .inl (cy 9, k_ln k, .inr (.inl (ml k))) := by
  simp [k_cell, hc]
theorem k_cellR {cy : Nat → ClassId} {ad : Ky → Nat} {mr : MemR} {mi : MemI} {ml : MemL} {k : Ky} {ci : Nat} (hc : k.1 = ci) (h9 : 9 < ci) : k_cell cy ad mr mi ml k = .inl (cy ci, k_ln k, .inr (.inr (.inr (.inr (fun j => (mr k j).map ad))))) := by
  subst hc
  have h1 : ¬ k.1 < 8 := by omega
  have h2 : ¬ k.1 = 8 := by omega
  have h3 : ¬ k.1 = 9 := by omega
  simp [k_cell, h1, h2, h3]
theorem k_ui_ne {mi : MemI} {k k' : Ky} {j : Nat} {v : Int32} (h : k' ≠ k) : k_ui mi k j v k' = mi k' := by
  funext j'
  simp [k_ui, h]
theorem k_ul_ne {ml : MemL} {k k' : Ky} {j : Nat} {v : Int64} (h : k' ≠ k) : k_ul ml k j v k' = ml k' := by
  funext j'
  simp [k_ul, h]
theorem k_ur_ne {mr : MemR} {k k' : Ky} {j : Nat} {v : Option Ky} (h : k' ≠ k) : k_ur mr k j v k' = mr k' := by
  funext j'
  simp [k_ur, h]
theorem k_cell_eq {cy : Nat → ClassId} {ad : Ky → Nat} {mr mr' : MemR} {mi mi' : MemI} {ml ml' : MemL} {k : Ky} (h1 : mi' k = mi k) (h2 : ml' k = ml k) (h3 : mr' k = mr k) : k_cell cy ad mr' mi' ml' k = k_cell cy ad mr mi ml k := by
  simp only [k_cell, h1, h2, h3]
/-- a field's value behind an int written there -/
theorem k_setI {ad : Ky → Nat} {mr : MemR} {mi : MemI} {k : Ky} {ci j : Nat} {v : Int32} (hr : k_rf ci j = false) : ((List.range (k_nF ci)).map (fun j => if k_rf ci j = true then va_rf ((mr k j).map ad) else .int (mi k j))).set j (.int v) = (List.range (k_nF ci)).map (fun j' => if k_rf ci j' = true then va_rf ((mr k j').map ad) else .int (k_ui mi k j v k j')) := by
  apply List.ext_getElem?
  intro i
  rw [List.getElem?_set, List.getElem?_map, List.getElem?_map]
  by_cases h : j = i
  · subst h
    simp only [if_true, List.length_map, List.length_range]
    by_cases hlt : j < k_nF ci
    · simp [hlt, hr, k_ui]
    · simp [hlt]
  · have h' : ¬ i = j := fun q => h q.symm
    simp only [h, if_false]
    by_cases hlt : i < k_nF ci
    · simp [hlt, k_ui, h']
    · simp [hlt]
theorem k_setR {ad : Ky → Nat} {mr : MemR} {mi : MemI} {k : Ky} {ci j : Nat} {v : Option Ky} (hr : k_rf ci j = true) : ((List.range (k_nF ci)).map (fun j => if k_rf ci j = true then va_rf ((mr k j).map ad) else .int (mi k j))).set j (va_rf (v.map ad)) = (List.range (k_nF ci)).map (fun j' => if k_rf ci j' = true then va_rf ((k_ur mr k j v k j').map ad) else .int (mi k j')) := by
  apply List.ext_getElem?
  intro i
  rw [List.getElem?_set, List.getElem?_map, List.getElem?_map]
  by_cases h : j = i
  · subst h
    simp only [if_true, List.length_map, List.length_range]
    by_cases hlt : j < k_nF ci
    · simp [hlt, hr, k_ur]
    · simp [hlt]
  · have h' : ¬ i = j := fun q => h q.symm
    simp only [h, if_false]
    by_cases hlt : i < k_nF ci
    · simp [hlt, k_ur, h']
    · simp [hlt]
theorem k_upd {mi : MemI} {k : Ky} {j : Nat} {v : Int32} : upd (mi k) j v = k_ui mi k j v k := by
  funext i
  simp [upd, k_ui]
theorem k_updL {ml : MemL} {k : Ky} {j : Nat} {v : Int64} : vp_updL (ml k) j v = k_ul ml k j v k := by
  funext i
  simp [vp_updL, k_ul]
section KM
variable {p : Program} {l : Launch} {e : Env} {R : Room} {s : State} {m : MethodId} {args : Array Value} {below : List Frame} {meth : Method} {c : Code} {D : va_G} {cy : Nat → ClassId} {ad : Ky → Nat} {bs : Nat} {ks : List Ky} {mr : MemR} {cells slots : Nat} {Q : State → Prop} {mi : MemI} {ml : MemL} {pc : Nat} {L st : List MV} {M : k_M}
theorem k_getG (C : k_Cx p s m args meth c D cy ad bs ks M) {idx ci j : Nat} {kk : Ky} (f : k_FL M.1.cls idx ci j) (hk : kk ∈ ks) (hc : kk.1 = ci) {v : MV} (hv : k_enc ad v = if k_rf ci j = true then va_rf ((mr kk j).map ad) else .int (mi kk j)) (d : decode M.2.1 pc = .ok (.getfield idx, 3)) (k : k_V p l e R s m args below meth c D cy ad bs ks mr cells slots Q mi ml (pc + 3) (L) (v :: st)) : k_V p l e R s m args below meth c D cy ad bs ks mr cells slots Q mi ml (pc) (L) (vR kk :: st) := by
  obtain ⟨⟨hx, hb, hml, hown, hts⟩, ⟨hbs, hK, hNW, hok, hSt, hRs, hAO⟩, hr, hlk, hnm⟩ := C
  intro H locs ls hP hS hl
  obtain ⟨q, ⟨h8, hq, hN, hin, ⟨ty0, hty⟩, hnm2⟩, hj, hlink⟩ := f
  obtain ⟨n, hn, hw⟩ := k_at (cy := cy) (ad := ad) (mr := mr) (mi := mi) (ml := ml) hk
  rw [k_cellO hc h8] at hw
  have hfv : ((List.range (k_nF ci)).map (fun j => if k_rf ci j = true then va_rf ((mr kk j).map ad) else .int (mi kk j)))[j]? = some (k_enc ad v) := by
    rw [List.getElem?_map, List.getElem?_range (by rw [← hN]; exact hj)]
    simp [hv]
  rcases hlink with hw2 | ⟨host, hw2⟩
  · exact va_get hx hb hts hin hown hK hP n hw hq j hj (hts _ hw2) (fun _ h9 => h9) hfv d (k H locs ls hP hS hl)
  · exact va_getN hx hb hts hin hown hK hP n hw hq j hj (k_Nw_use hw2 (hNW _ hw2)) (fun _ h9 => h9) hfv d (k H locs ls hP hS hl)
theorem k_getI (C : k_Cx p s m args meth c D cy ad bs ks M) {idx ci j : Nat} {kk : Ky} (f : k_FL M.1.cls idx ci j) (hk : kk ∈ ks) (hc : kk.1 = ci) (hr : k_rf ci j = false) (d : decode M.2.1 pc = .ok (.getfield idx, 3)) (k : k_V p l e R s m args below meth c D cy ad bs ks mr cells slots Q mi ml (pc + 3) (L) (vI (mi kk j) :: st)) : k_V p l e R s m args below meth c D cy ad bs ks mr cells slots Q mi ml (pc) (L) (vR kk :: st) :=
  k_getG C f hk hc (v := vI (mi kk j)) (by simp [hr, k_enc]) d k
theorem k_getR (C : k_Cx p s m args meth c D cy ad bs ks M) {idx ci j : Nat} {kk : Ky} {r : Option Ky} (f : k_FL M.1.cls idx ci j) (hk : kk ∈ ks) (hc : kk.1 = ci) (hr : k_rf ci j = true) (hv : mr kk j = r) (d : decode M.2.1 pc = .ok (.getfield idx, 3)) (k : k_V p l e R s m args below meth c D cy ad bs ks mr cells slots Q mi ml (pc + 3) (L) (vQ r :: st)) : k_V p l e R s m args below meth c D cy ad bs ks mr cells slots Q mi ml (pc) (L) (vR kk :: st) :=
  k_getG C f hk hc (v := vQ r) (by simp [hr, k_enc, hv]) d k
theorem k_putG (C : k_Cx p s m args meth c D cy ad bs ks M) {idx ci j : Nat} {kk : Ky} {v : Int32} {ty : FieldType} (hty1 : narrow ty (.int v) = .int v ∧ fits ty (.int v) = true) (f : k_PL M.1.cls idx ci j ty false) (hk : kk ∈ ks) (hc : kk.1 = ci) (hrf : k_rf ci j = false) (d : decode M.2.1 pc = .ok (.putfield idx, 3)) (k : k_V p l e R s m args below meth c D cy ad bs ks mr cells slots Q (k_ui mi kk j v) ml (pc + 3) (L) (st)) : k_V p l e R s m args below meth c D cy ad bs ks mr cells slots Q mi ml (pc) (L) (vI v :: vR kk :: st) := by
  obtain ⟨⟨hx, hb, hml, hown, hts⟩, ⟨hbs, hK, hNW, hok, hSt, hRs, hAO⟩, hr, hlk, hnm⟩ := C
  intro H locs ls hP hS hl
  obtain ⟨q, ⟨h8, hq, hN, hin, ⟨ty0, hty⟩, hnm2⟩, hj, hlink, hfin, hpty, hdecl⟩ := f
  obtain ⟨n, hn, hw⟩ := k_at (cy := cy) (ad := ad) (mr := mr) (mi := mi) (ml := ml) hk
  rw [k_cellO hc h8] at hw
  have hD := k_okD hok cy mr mi ml
  have hlen : j < ((List.range (k_nF ci)).map (fun j => if k_rf ci j = true then va_rf ((mr kk j).map ad) else .int (mi kk j))).length := by
    rw [List.length_map, List.length_range, ← hN]
    exact hj
  have hset := k_set (bs := bs) (cy := cy) (ad := ad) (mr := mr) (mr' := mr) (mi := mi) (mi' := k_ui mi kk j v) (ml := ml) (ml' := ml) (e := .inr (ci, ((List.range (k_nF ci)).map (fun j => if k_rf ci j = true then va_rf ((mr kk j).map ad) else .int (mi kk j))).set j (.int v))) hok hn (by rw [k_cellO hc h8, k_setI hrf]) (fun k' hk' => k_cell_eq (k_ui_ne hk') rfl rfl)
  rcases hlink with hw2 | ⟨-, host, hw2⟩
  · exact va_put hx hb hts hin ty0 hty hnm2 hown hK hP hD hS n hw hq j hj (hts _ hw2) (fun _ h9 => h9) hfin hpty hty1.1 hty1.2 hlen d (fun H1 locs1 hP1 hD1 hS1 => k H1 locs1 ls (by rw [← hset]; exact hP1) hS1 hl)
  · exact va_putN hx hb hts hin ty0 hty hnm2 hown hK hP hD hS n hw hq j hj (k_Nw_use hw2 (hNW _ hw2)) (fun _ h9 => h9) hfin hpty hty1.1 hty1.2 hlen d (fun H1 locs1 hP1 hD1 hS1 => k H1 locs1 ls (by rw [← hset]; exact hP1) hS1 hl)
theorem k_putI (C : k_Cx p s m args meth c D cy ad bs ks M) {idx ci j : Nat} {kk : Ky} {v : Int32} (f : k_PL M.1.cls idx ci j .int false) (hk : kk ∈ ks) (hc : kk.1 = ci) (hrf : k_rf ci j = false) (d : decode M.2.1 pc = .ok (.putfield idx, 3)) (k : k_V p l e R s m args below meth c D cy ad bs ks mr cells slots Q (k_ui mi kk j v) ml (pc + 3) (L) (st)) : k_V p l e R s m args below meth c D cy ad bs ks mr cells slots Q mi ml (pc) (L) (vI v :: vR kk :: st) :=
  k_putG C ⟨rfl, rfl⟩ f hk hc hrf d k
theorem k_putZ (C : k_Cx p s m args meth c D cy ad bs ks M) {idx ci j : Nat} {kk : Ky} {v : Int32} (hv : v = 0 ∨ v = 1) (f : k_PL M.1.cls idx ci j .boolean false) (hk : kk ∈ ks) (hc : kk.1 = ci) (hrf : k_rf ci j = false) (d : decode M.2.1 pc = .ok (.putfield idx, 3)) (k : k_V p l e R s m args below meth c D cy ad bs ks mr cells slots Q (k_ui mi kk j v) ml (pc + 3) (L) (st)) : k_V p l e R s m args below meth c D cy ad bs ks mr cells slots Q mi ml (pc) (L) (vI v :: vR kk :: st) :=
  k_putG C (by rcases hv with rfl | rfl <;> exact ⟨by decide, by decide⟩) f hk hc hrf d k
theorem k_putFI (C : k_Cx p s m args meth c D cy ad bs ks M) (hinit : M.1.name = "<init>") {idx ci j : Nat} {kk : Ky} {v : Int32} (f : k_PL M.1.cls idx ci j .int true) (hk : kk ∈ ks) (hc : kk.1 = ci) (hrf : k_rf ci j = false) (d : decode M.2.1 pc = .ok (.putfield idx, 3)) (k : k_V p l e R s m args below meth c D cy ad bs ks mr cells slots Q (k_ui mi kk j v) ml (pc + 3) (L) (st)) : k_V p l e R s m args below meth c D cy ad bs ks mr cells slots Q mi ml (pc) (L) (vI v :: vR kk :: st) := by
  obtain ⟨⟨hx, hb, hml, hown, hts⟩, ⟨hbs, hK, hNW, hok, hSt, hRs, hAO⟩, hr, hlk, hnm⟩ := C
  intro H locs ls hP hS hl
  obtain ⟨q, ⟨h8, hq, hN, hin, ⟨ty0, hty⟩, hnm2⟩, hj, hlink, hfin, hpty, hdecl⟩ := f
  obtain ⟨n, hn, hw⟩ := k_at (cy := cy) (ad := ad) (mr := mr) (mi := mi) (ml := ml) hk
  rw [k_cellO hc h8] at hw
  have hD := k_okD hok cy mr mi ml
  have hlen : j < ((List.range (k_nF ci)).map (fun j => if k_rf ci j = true then va_rf ((mr kk j).map ad) else .int (mi kk j))).length := by
    rw [List.length_map, List.length_range, ← hN]
    exact hj
  have hset := k_set (bs := bs) (cy := cy) (ad := ad) (mr := mr) (mr' := mr) (mi := mi) (mi' := k_ui mi kk j v) (ml := ml) (ml' := ml) (e := .inr (ci, ((List.range (k_nF ci)).map (fun j => if k_rf ci j = true then va_rf ((mr kk j).map ad) else .int (mi kk j))).set j (.int v))) hok hn (by rw [k_cellO hc h8, k_setI hrf]) (fun k' hk' => k_cell_eq (k_ui_ne hk') rfl rfl)
  rcases hlink with hw2 | ⟨h0, -⟩
  · exact va_putF hx hb hts hin ty0 hty hnm2 hown hK hP hD hS n hw hq j hj (hts _ hw2) (fun _ h9 => h9) hfin (hnm.trans hinit) (hdecl rfl) hpty rfl rfl hlen d (fun H1 locs1 hP1 hD1 hS1 => k H1 locs1 ls (by rw [← hset]; exact hP1) hS1 hl)
  · cases h0
theorem k_putFR (C : k_Cx p s m args meth c D cy ad bs ks M) (hinit : M.1.name = "<init>") {idx ci j : Nat} {kk : Ky} {v : Option Ky} {ty : FieldType} (hty1 : (∃ C, ty = .object C) ∨ ∃ t, ty = .array t) (f : k_PL M.1.cls idx ci j ty true) (hk : kk ∈ ks) (hc : kk.1 = ci) (hrf : k_rf ci j = true) (d : decode M.2.1 pc = .ok (.putfield idx, 3)) (k : k_V p l e R s m args below meth c D cy ad bs ks (k_ur mr kk j v) cells slots Q mi ml (pc + 3) (L) (st)) : k_V p l e R s m args below meth c D cy ad bs ks mr cells slots Q mi ml (pc) (L) (vQ v :: vR kk :: st) := by
  obtain ⟨⟨hx, hb, hml, hown, hts⟩, ⟨hbs, hK, hNW, hok, hSt, hRs, hAO⟩, hr, hlk, hnm⟩ := C
  intro H locs ls hP hS hl
  obtain ⟨q, ⟨h8, hq, hN, hin, ⟨ty0, hty⟩, hnm2⟩, hj, hlink, hfin, hpty, hdecl⟩ := f
  obtain ⟨n, hn, hw⟩ := k_at (cy := cy) (ad := ad) (mr := mr) (mi := mi) (ml := ml) hk
  rw [k_cellO hc h8] at hw
  have hD := k_okD hok cy mr mi ml
  have hlen : j < ((List.range (k_nF ci)).map (fun j => if k_rf ci j = true then va_rf ((mr kk j).map ad) else .int (mi kk j))).length := by
    rw [List.length_map, List.length_range, ← hN]
    exact hj
  have hset := k_set (bs := bs) (cy := cy) (ad := ad) (mr := mr) (mr' := k_ur mr kk j v) (mi := mi) (mi' := mi) (ml := ml) (ml' := ml) (e := .inr (ci, ((List.range (k_nF ci)).map (fun j => if k_rf ci j = true then va_rf ((mr kk j).map ad) else .int (mi kk j))).set j (va_rf (v.map ad)))) hok hn (by rw [k_cellO hc h8, k_setR hrf]) (fun k' hk' => k_cell_eq rfl rfl (k_ur_ne hk'))
  have hn1 : narrow ty (va_rf (v.map ad)) = va_rf (v.map ad) := by cases v <;> rcases hty1 with ⟨C, rfl⟩ | ⟨t, rfl⟩ <;> rfl
  have hf1 : fits ty (va_rf (v.map ad)) = true := by cases v <;> rcases hty1 with ⟨C, rfl⟩ | ⟨t, rfl⟩ <;> rfl
  rcases hlink with hw2 | ⟨h0, -⟩
  · exact va_putF hx hb hts hin ty0 hty hnm2 hown hK hP hD hS n hw hq j hj (hts _ hw2) (fun _ h9 => h9) hfin (hnm.trans hinit) (hdecl rfl) hpty hn1 hf1 hlen d (fun H1 locs1 hP1 hD1 hS1 => k H1 locs1 ls (by rw [← hset]; exact hP1) hS1 hl)
  · cases h0
theorem k_iald (C : k_Cx p s m args meth c D cy ad bs ks M) {kk : Ky} {i : Int32} (hk : kk ∈ ks) (hc : kk.1 = 8) (hin : vp_in i (k_ln kk)) (d : decode M.2.1 pc = .ok (.iaload, 1)) (k : k_V p l e R s m args below meth c D cy ad bs ks mr cells slots Q mi ml (pc + 1) (L) (vI (mi kk i.toNatClampNeg) :: st)) : k_V p l e R s m args below meth c D cy ad bs ks mr cells slots Q mi ml (pc) (L) (vI i :: vR kk :: st) := by
  obtain ⟨⟨hx, hb, hml, hown, hts⟩, ⟨hbs, hK, hNW, hok, hSt, hRs, hAO⟩, hr, hlk, hnm⟩ := C
  intro H locs ls hP hS hl
  obtain ⟨n, hn, hw⟩ := k_at (cy := cy) (ad := ad) (mr := mr) (mi := mi) (ml := ml) hk
  rw [k_cellI hc] at hw
  exact va_iald hx hb hK hP n 0 hw rfl hin d (k H locs ls hP hS hl)
theorem k_lald (C : k_Cx p s m args meth c D cy ad bs ks M) {kk : Ky} {i : Int32} (hk : kk ∈ ks) (hc : kk.1 = 9) (hin : vp_in i (k_ln kk)) (d : decode M.2.1 pc = .ok (.laload, 1)) (k : k_V p l e R s m args below meth c D cy ad bs ks mr cells slots Q mi ml (pc + 1) (L) (vL (ml kk i.toNatClampNeg) :: st)) : k_V p l e R s m args below meth c D cy ad bs ks mr cells slots Q mi ml (pc) (L) (vI i :: vR kk :: st) := by
  obtain ⟨⟨hx, hb, hml, hown, hts⟩, ⟨hbs, hK, hNW, hok, hSt, hRs, hAO⟩, hr, hlk, hnm⟩ := C
  intro H locs ls hP hS hl
  obtain ⟨n, hn, hw⟩ := k_at (cy := cy) (ad := ad) (mr := mr) (mi := mi) (ml := ml) hk
  rw [k_cellL hc] at hw
  exact va_lald hx hb hK hP n 1 hw rfl hin d (k H locs ls hP hS hl)
theorem k_iast (C : k_Cx p s m args meth c D cy ad bs ks M) {kk : Ky} {i x : Int32} (hk : kk ∈ ks) (hc : kk.1 = 8) (hin : vp_in i (k_ln kk)) (d : decode M.2.1 pc = .ok (.iastore, 1)) (k : k_V p l e R s m args below meth c D cy ad bs ks mr cells slots Q (k_ui mi kk i.toNatClampNeg x) ml (pc + 1) (L) (st)) : k_V p l e R s m args below meth c D cy ad bs ks mr cells slots Q mi ml (pc) (L) (vI x :: vI i :: vR kk :: st) := by
  obtain ⟨⟨hx, hb, hml, hown, hts⟩, ⟨hbs, hK, hNW, hok, hSt, hRs, hAO⟩, hr, hlk, hnm⟩ := C
  intro H locs ls hP hS hl
  obtain ⟨n, hn, hw⟩ := k_at (cy := cy) (ad := ad) (mr := mr) (mi := mi) (ml := ml) hk
  rw [k_cellI hc] at hw
  have hset := k_set (bs := bs) (cy := cy) (ad := ad) (mr := mr) (mr' := mr) (mi := mi) (mi' := k_ui mi kk i.toNatClampNeg x) (ml := ml) (ml' := ml) (e := .inl (cy 8, k_ln kk, .inl (upd (mi kk) i.toNatClampNeg x))) hok hn (by rw [k_cellI hc, k_upd]) (fun k' hk' => k_cell_eq (k_ui_ne hk') rfl rfl)
  exact va_iast hx hb hK hP (k_okD hok cy mr mi ml) hS n 0 hw rfl hin d (fun H1 locs1 hP1 hD1 hS1 => k H1 locs1 ls (by rw [← hset]; exact hP1) hS1 hl)
theorem k_last (C : k_Cx p s m args meth c D cy ad bs ks M) {kk : Ky} {i : Int32} {x : Int64} (hk : kk ∈ ks) (hc : kk.1 = 9) (hin : vp_in i (k_ln kk)) (d : decode M.2.1 pc = .ok (.lastore, 1)) (k : k_V p l e R s m args below meth c D cy ad bs ks mr cells slots Q mi (k_ul ml kk i.toNatClampNeg x) (pc + 1) (L) (st)) : k_V p l e R s m args below meth c D cy ad bs ks mr cells slots Q mi ml (pc) (L) (vL x :: vI i :: vR kk :: st) := by
  obtain ⟨⟨hx, hb, hml, hown, hts⟩, ⟨hbs, hK, hNW, hok, hSt, hRs, hAO⟩, hr, hlk, hnm⟩ := C
  intro H locs ls hP hS hl
  obtain ⟨n, hn, hw⟩ := k_at (cy := cy) (ad := ad) (mr := mr) (mi := mi) (ml := ml) hk
  rw [k_cellL hc] at hw
  have hset := k_set (bs := bs) (cy := cy) (ad := ad) (mr := mr) (mr' := mr) (mi := mi) (mi' := mi) (ml := ml) (ml' := k_ul ml kk i.toNatClampNeg x) (e := .inl (cy 9, k_ln kk, .inr (.inl (vp_updL (ml kk) i.toNatClampNeg x)))) hok hn (by rw [k_cellL hc, k_updL]) (fun k' hk' => k_cell_eq rfl (k_ul_ne hk') rfl)
  exact va_last hx hb hK hP (k_okD hok cy mr mi ml) hS n 1 hw rfl hin d (fun H1 locs1 hP1 hD1 hS1 => k H1 locs1 ls (by rw [← hset]; exact hP1) hS1 hl)
theorem k_aald (C : k_Cx p s m args meth c D cy ad bs ks M) {kk : Ky} {i : Int32} {r : Option Ky} (hk : kk ∈ ks) (hc : kk.1 = 10 ∨ kk.1 = 11 ∨ kk.1 = 12) (hin : vp_in i (k_ln kk)) (hv : mr kk i.toNatClampNeg = r) (d : decode M.2.1 pc = .ok (.aaload, 1)) (k : k_V p l e R s m args below meth c D cy ad bs ks mr cells slots Q mi ml (pc + 1) (L) (vQ r :: st)) : k_V p l e R s m args below meth c D cy ad bs ks mr cells slots Q mi ml (pc) (L) (vI i :: vR kk :: st) := by
  obtain ⟨⟨hx, hb, hml, hown, hts⟩, ⟨hbs, hK, hNW, hok, hSt, hRs, hAO⟩, hr, hlk, hnm⟩ := C
  intro H locs ls hP hS hl
  obtain ⟨n, hn, hw⟩ := k_at (cy := cy) (ad := ad) (mr := mr) (mi := mi) (ml := ml) hk
  have hk2 : W p l e R s m args below meth c H locs cells slots Q (F0 m (pc + 1) ls (va_rf ((mr kk i.toNatClampNeg).map ad) :: st.map (k_enc ad))) := by
    rw [hv]
    exact k H locs ls hP hS hl
  rcases hc with hc | hc | hc
  · rw [k_cellR hc (by omega)] at hw
    exact va_aldq hx hb hK hP n 2 hw rfl hin d hk2
  · rw [k_cellR hc (by omega)] at hw
    exact va_aldq hx hb hK hP n 3 hw rfl hin d hk2
  · rw [k_cellR hc (by omega)] at hw
    exact va_aldq hx hb hK hP n 4 hw rfl hin d hk2
theorem k_alen (C : k_Cx p s m args meth c D cy ad bs ks M) {kk : Ky} {v : Int32} (hk : kk ∈ ks) (hc : 8 ≤ kk.1 ∧ kk.1 ≤ 12) (hv : Int32.ofNat (k_ln kk) = v) (d : decode M.2.1 pc = .ok (.arraylength, 1)) (k : k_V p l e R s m args below meth c D cy ad bs ks mr cells slots Q mi ml (pc + 1) (L) (vI v :: st)) : k_V p l e R s m args below meth c D cy ad bs ks mr cells slots Q mi ml (pc) (L) (vR kk :: st) := by
  obtain ⟨⟨hx, hb, hml, hown, hts⟩, ⟨hbs, hK, hNW, hok, hSt, hRs, hAO⟩, hr, hlk, hnm⟩ := C
  intro H locs ls hP hS hl
  obtain ⟨n, hn, hw⟩ := k_at (cy := cy) (ad := ad) (mr := mr) (mi := mi) (ml := ml) hk
  have hk2 := k H locs ls hP hS hl
  rcases (show kk.1 = 8 ∨ kk.1 = 9 ∨ kk.1 = 10 ∨ kk.1 = 11 ∨ kk.1 = 12 by omega) with hc | hc | hc | hc | hc
  · rw [k_cellI hc] at hw
    exact va_alen hx hb hK hP n 0 hw rfl hv d hk2
  · rw [k_cellL hc] at hw
    exact va_alen hx hb hK hP n 1 hw rfl hv d hk2
  · rw [k_cellR hc (by omega)] at hw
    exact va_alen hx hb hK hP n 2 hw rfl hv d hk2
  · rw [k_cellR hc (by omega)] at hw
    exact va_alen hx hb hK hP n 3 hw rfl hv d hk2
  · rw [k_cellR hc (by omega)] at hw
    exact va_alen hx hb hK hP n 4 hw rfl hv d hk2
theorem k_getsK (C : k_Cx p s m args meth c D cy ad bs ks M) {idx : Nat} (hw : Cond.fieldLink M.1.cls idx RX6 "KIND_ABOVE" "[I" ∈ k_WS) (d : decode M.2.1 pc = .ok (.getstatic idx, 3)) (k : k_V p l e R s m args below meth c D cy ad bs ks mr cells slots Q mi ml (pc + 3) (L) (vR (13, 0, 0) :: st)) : k_V p l e R s m args below meth c D cy ad bs ks mr cells slots Q mi ml (pc) (L) (st) := by
  obtain ⟨⟨hx, hb, hml, hown, hts⟩, ⟨hbs, hK, hNW, hok, hSt, hRs, hAO⟩, hr, hlk, hnm⟩ := C
  intro H locs ls hP hS hl
  exact va_gets hx hb hSt.1 hS hown (hts _ hw) (fun _ h => h) d (k H locs ls hP hS hl)
theorem k_getsB (C : k_Cx p s m args meth c D cy ad bs ks M) {idx : Nat} {host : String} (hw : Cond.fieldLinkNest M.1.cls idx RX6 "BODIES" "[I" host ∈ k_NW) (d : decode M.2.1 pc = .ok (.getstatic idx, 3)) (k : k_V p l e R s m args below meth c D cy ad bs ks mr cells slots Q mi ml (pc + 3) (L) (vR (13, 1, 0) :: st)) : k_V p l e R s m args below meth c D cy ad bs ks mr cells slots Q mi ml (pc) (L) (st) := by
  obtain ⟨⟨hx, hb, hml, hown, hts⟩, ⟨hbs, hK, hNW, hok, hSt, hRs, hAO⟩, hr, hlk, hnm⟩ := C
  intro H locs ls hP hS hl
  exact va_getsN hx hb hSt.2.2.1 hS hown (k_Nw_use hw (hNW _ hw)) (fun _ h => h) d (k H locs ls hP hS hl)
theorem k_taldK (C : k_Cx p s m args meth c D cy ad bs ks M) {i : Int32} (hin : vp_in i 7) (d : decode M.2.1 pc = .ok (.iaload, 1)) (k : k_V p l e R s m args below meth c D cy ad bs ks mr cells slots Q mi ml (pc + 1) (L) (vI (k_KA i.toNatClampNeg) :: st)) : k_V p l e R s m args below meth c D cy ad bs ks mr cells slots Q mi ml (pc) (L) (vI i :: vR (13, 0, 0) :: st) := by
  obtain ⟨⟨hx, hb, hml, hown, hts⟩, ⟨hbs, hK, hNW, hok, hSt, hRs, hAO⟩, hr, hlk, hnm⟩ := C
  intro H locs ls hP hS hl
  exact va_ti hx hb hSt.2.1 hS hin rfl d (k H locs ls hP hS hl)
theorem k_taldB (C : k_Cx p s m args meth c D cy ad bs ks M) {i : Int32} (hin : vp_in i 21) (d : decode M.2.1 pc = .ok (.iaload, 1)) (k : k_V p l e R s m args below meth c D cy ad bs ks mr cells slots Q mi ml (pc + 1) (L) (vI (k_BO i.toNatClampNeg) :: st)) : k_V p l e R s m args below meth c D cy ad bs ks mr cells slots Q mi ml (pc) (L) (vI i :: vR (13, 1, 0) :: st) := by
  obtain ⟨⟨hx, hb, hml, hown, hts⟩, ⟨hbs, hK, hNW, hok, hSt, hRs, hAO⟩, hr, hlk, hnm⟩ := C
  intro H locs ls hP hS hl
  exact va_ti hx hb hSt.2.2.2.1 hS hin rfl d (k H locs ls hP hS hl)
theorem k_tlenK (C : k_Cx p s m args meth c D cy ad bs ks M) (d : decode M.2.1 pc = .ok (.arraylength, 1)) (k : k_V p l e R s m args below meth c D cy ad bs ks mr cells slots Q mi ml (pc + 1) (L) (vI 7 :: st)) : k_V p l e R s m args below meth c D cy ad bs ks mr cells slots Q mi ml (pc) (L) (vR (13, 0, 0) :: st) := by
  obtain ⟨⟨hx, hb, hml, hown, hts⟩, ⟨hbs, hK, hNW, hok, hSt, hRs, hAO⟩, hr, hlk, hnm⟩ := C
  intro H locs ls hP hS hl
  exact va_tlen hx hb hSt.2.1 hS rfl d (k H locs ls hP hS hl)
theorem k_tlenB (C : k_Cx p s m args meth c D cy ad bs ks M) (d : decode M.2.1 pc = .ok (.arraylength, 1)) (k : k_V p l e R s m args below meth c D cy ad bs ks mr cells slots Q mi ml (pc + 1) (L) (vI 21 :: st)) : k_V p l e R s m args below meth c D cy ad bs ks mr cells slots Q mi ml (pc) (L) (vR (13, 1, 0) :: st) := by
  obtain ⟨⟨hx, hb, hml, hown, hts⟩, ⟨hbs, hK, hNW, hok, hSt, hRs, hAO⟩, hr, hlk, hnm⟩ := C
  intro H locs ls hP hS hl
  exact va_tlen hx hb hSt.2.2.2.1 hS rfl d (k H locs ls hP hS hl)
end KM
section KT
variable {p : Program} {l : Launch} {e : Env} {R : Room} {s : State} {m : MethodId} {args : Array Value} {below : List Frame} {meth : Method} {c : Code} {D : va_G} {cy : Nat → ClassId} {ad : Ky → Nat} {bs : Nat} {ks : List Ky} {mr : MemR} {cells slots : Nat} {Q : State → Prop} {mi : MemI} {ml : MemL} {pc : Nat} {L st : List MV} {M : k_M} {P : Option MV → MemI → MemL → Prop}
/-- the goal's end in a method's body -/
def k_End (below : List Frame) (D : va_G) (cy : Nat → ClassId) (ad : Ky → Nat) (bs : Nat) (ks : List Ky) (mr : MemR) (P : Option MV → MemI → MemL → Prop) (args : Array Value) (s : State) : State → Prop := MQ below (k_Qc D cy ad bs ks mr P) args s 0 0 (k_AB bs)
def k_rt (r : Option MV) (mi : MemI) (ml : MemL) : Option MV → MemI → MemL → Prop := fun r' mi' ml' => r' = r ∧ mi' = mi ∧ ml' = ml
theorem k_rt_rf {r : Option MV} {mi : MemI} {ml : MemL} : k_rt r mi ml r mi ml := ⟨rfl, rfl, rfl⟩
theorem k_iret (C : k_Cx p s m args meth c D cy ad bs ks M) (hret : M.2.2.2 = some .int) {x : Int32} (hp : P (some (vI x)) mi ml) (d : decode M.2.1 pc = .ok (.ireturn, 1)) : k_V p l e R s m args below meth c D cy ad bs ks mr 0 0 (k_End below D cy ad bs ks mr P args s) mi ml (pc) (L) ([vI x]) := by
  obtain ⟨⟨hx, hb, hml, hown, hts⟩, ⟨hbs, hK, hNW, hok, hSt, hRs, hAO⟩, hr, hlk, hnm⟩ := C
  intro H locs ls hP hS hl
  exact W.iret (v := x) hx hb (hr.trans hret) (fun t ht hW => ⟨⟨some (vI x), mi, ml, rfl, hp, by rw [ht]; exact hP⟩, hS.F ht⟩) hS.2.2 d hlk
theorem k_zret (C : k_Cx p s m args meth c D cy ad bs ks M) (hret : M.2.2.2 = some .boolean) {x : Int32} (h01 : x = 0 ∨ x = 1) (hp : P (some (vI x)) mi ml) (d : decode M.2.1 pc = .ok (.ireturn, 1)) : k_V p l e R s m args below meth c D cy ad bs ks mr 0 0 (k_End below D cy ad bs ks mr P args s) mi ml (pc) (L) ([vI x]) := by
  obtain ⟨⟨hx, hb, hml, hown, hts⟩, ⟨hbs, hK, hNW, hok, hSt, hRs, hAO⟩, hr, hlk, hnm⟩ := C
  intro H locs ls hP hS hl
  exact W.zret (v := x) hx hb (hr.trans hret) (by rcases h01 with rfl | rfl <;> decide) (fun t ht hW => ⟨⟨some (vI x), mi, ml, rfl, hp, by rw [ht]; exact hP⟩, hS.F ht⟩) hS.2.2 d hlk
theorem k_lret (C : k_Cx p s m args meth c D cy ad bs ks M) (hret : M.2.2.2 = some .long) {x : Int64} (hp : P (some (vL x)) mi ml) (d : decode M.2.1 pc = .ok (.lreturn, 1)) : k_V p l e R s m args below meth c D cy ad bs ks mr 0 0 (k_End below D cy ad bs ks mr P args s) mi ml (pc) (L) ([vL x]) := by
  obtain ⟨⟨hx, hb, hml, hown, hts⟩, ⟨hbs, hK, hNW, hok, hSt, hRs, hAO⟩, hr, hlk, hnm⟩ := C
  intro H locs ls hP hS hl
  exact W.lret (v := x) hx hb (hr.trans hret) (fun t ht hW => ⟨⟨some (vL x), mi, ml, rfl, hp, by rw [ht]; exact hP⟩, hS.F ht⟩) hS.2.2 d hlk
theorem k_vret (C : k_Cx p s m args meth c D cy ad bs ks M) (hret : M.2.2.2 = none) (hp : P (none) mi ml) (d : decode M.2.1 pc = .ok (.return_, 1)) : k_V p l e R s m args below meth c D cy ad bs ks mr 0 0 (k_End below D cy ad bs ks mr P args s) mi ml (pc) (L) ([]) := by
  obtain ⟨⟨hx, hb, hml, hown, hts⟩, ⟨hbs, hK, hNW, hok, hSt, hRs, hAO⟩, hr, hlk, hnm⟩ := C
  intro H locs ls hP hS hl
  exact W.vret hx hb (hr.trans hret) (fun t ht hW => ⟨⟨none, mi, ml, rfl, hp, by rw [ht]; exact hP⟩, hS.F ht⟩) hS.2.2 d hlk
theorem k_aret (C : k_Cx p s m args meth c D cy ad bs ks M) {rt : FieldType} (hret : M.2.2.2 = some rt) (hrt : (∃ n, rt = .object n) ∨ ∃ t, rt = .array t) {x : Option Ky} (hp : P (some (vQ x)) mi ml) (d : decode M.2.1 pc = .ok (.areturn, 1)) : k_V p l e R s m args below meth c D cy ad bs ks mr 0 0 (k_End below D cy ad bs ks mr P args s) mi ml (pc) (L) ([vQ x]) := by
  obtain ⟨⟨hx, hb, hml, hown, hts⟩, ⟨hbs, hK, hNW, hok, hSt, hRs, hAO⟩, hr, hlk, hnm⟩ := C
  intro H locs ls hP hS hl
  exact W.aret (v := k_enc ad (vQ x)) hx hb (hr.trans hret) hrt (by cases x with | none => exact Or.inl rfl | some y => exact Or.inr ⟨_, rfl⟩) (fun t ht hW => ⟨⟨some (vQ x), mi, ml, rfl, hp, by rw [ht]; exact hP⟩, hS.F ht⟩) hS.2.2 d hlk
/-- a contract out of a walk from the entry -/
theorem k_ofV {nf : Nat} {as L0 : List MV} (hy : plainName M.1.cls = true) (hle : (k_ex as).length ≤ M.2.2.1) (hu : as.all (fun v => !k_isU v) = true) (hL : k_ex as ++ List.replicate (M.2.2.1 - (k_ex as).length) vU = L0)
    (body : ∀ (p : Program) (l : Launch) (e : Env) (s : State) (m : MethodId) (args : Array Value) (below : List Frame) (meth : Method) (c : Code) (D : va_G) (cy : Nat → ClassId) (ad : Ky → Nat) (bs : Nat), k_Cx p s m args meth c D cy ad bs ks M → k_V p l e (k_rm nf) s m args below meth c D cy ad bs ks mr 0 0 (k_End below D cy ad bs ks mr P args s) mi ml (0) (L0) ([])) : k_Ct ks mr M nf as mi ml P := by
  intro l D cy ad bs
  refine Met.ofW (cc := M.2.1) (maxL := M.2.2.1) (ret := M.2.2.2) hy rfl ?_
  intro p e s m args below meth c s₁ B hml hv
  obtain ⟨rfl, hP, hF⟩ := hv
  have hts := atoms_spec (ws := k_wm M) B.pre
  have hown : s.vm.findClass M.1.cls = some m.cls := findClass_of_methodNamed B.named
  have C : k_Cx p s m (as.map (k_enc ad)).toArray meth c D cy ad bs ks M := ⟨⟨B.exec, B.bytes, hml, hown, fun w hw => hts w (List.mem_cons_of_mem _ hw)⟩, hF, B.returns, B.notSynchronized, (name_of_methodNamed B.named B.method).1⟩
  have hsl : ∀ xs : List MV, (lg_sl (xs.map (k_enc ad))).length = (k_ex xs).length := by
    intro xs
    induction xs with
    | nil => rfl
    | cons x xs ih =>
      simp only [lg_sl, k_ex, List.map_cons, List.flatMap_cons, List.length_append] at ih ⊢
      rw [ih]
      by_cases h : k_isL x = true
      · rw [if_pos (k_enc_cat.mpr h), if_pos h]; rfl
      · rw [if_neg (fun q => h (k_enc_cat.mp q)), if_neg h]; rfl
  have hl := lv_entry (as.map (k_enc ad)) (n := M.2.2.1) (by rw [hsl]; exact hle)
  rw [lg_entry_eq]
  have harg : ∀ (xs : List MV) (i0 i : Nat) (v : MV), (k_ex xs)[i]? = some v → k_isU v = false → (∀ y ∈ xs, k_isU y = false) → (i0 + i, k_enc ad v) ∈ lv_args i0 (xs.map (k_enc ad)) := by
    intro xs
    induction xs with
    | nil => intro i0 i v h; simp [k_ex] at h
    | cons x xs ih =>
      intro i0 i v h hu hxs
      by_cases hx : k_isL x = true
      · have hc := (k_enc_cat (ad := ad)).mpr hx
        simp only [k_ex, List.flatMap_cons, if_pos hx] at h
        simp only [List.map_cons, lv_args, if_pos hc]
        match i, h with
        | 0, h => simp at h; subst h; exact List.mem_cons_self
        | 1, h => simp at h; subst h; cases hu
        | i + 2, h =>
          have := ih (i0 + 2) i v (by simpa [k_ex] using h) hu (fun y hy => hxs y (List.mem_cons_of_mem _ hy))
          exact List.mem_cons_of_mem _ (by rw [show i0 + (i + 2) = i0 + 2 + i by omega]; exact this)
      · have hc : ¬ (k_enc ad x).category = 2 := fun q => hx (k_enc_cat.mp q)
        simp only [k_ex, List.flatMap_cons, if_neg hx] at h
        simp only [List.map_cons, lv_args, if_neg hc]
        match i, h with
        | 0, h => simp at h; subst h; exact List.mem_cons_self
        | i + 1, h =>
          have := ih (i0 + 1) i v (by simpa [k_ex] using h) hu (fun y hy => hxs y (List.mem_cons_of_mem _ hy))
          exact List.mem_cons_of_mem _ (by rw [show i0 + (i + 1) = i0 + 1 + i by omega]; exact this)
  subst hL
  have hu2 : ∀ y ∈ as, k_isU y = false := fun y hy => by
    have := List.all_eq_true.mp hu y hy
    simpa using this
  refine body p l e s m _ below meth c D cy ad bs C s.heap [] _ hP va_S.rf ⟨hl.1.trans ?_, hl.2.1, fun i v hi hv => ?_⟩
  · rw [List.length_append, List.length_replicate]
    omega
  · rw [List.getElem?_append] at hi
    split at hi
    · have h2 := harg as 0 i v hi hv hu2
      rw [Nat.zero_add] at h2
      exact hl.2.2 _ h2
    · rw [List.getElem?_replicate] at hi
      split at hi
      · cases hi
        cases hv
      · cases hi
end KT
