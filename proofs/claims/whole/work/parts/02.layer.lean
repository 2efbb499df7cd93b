/-! THE LAYER: keys, values, memory; a walk's goal 'V' in these words; the world as one list over the keys -/
/-- a key: the kind of a cell (0 to 7: a class of vwCl; 8: int[], 9: long[], 10 to 12: arrays of objects; 13 up: old cells), a group, a place -/
abbrev Ky : Type := Nat × Nat × Nat
abbrev MV : Type := Int32 ⊕ Int64 ⊕ Option Ky ⊕ Unit
abbrev vI (x : Int32) : MV := .inl x
abbrev vL (x : Int64) : MV := .inr (.inl x)
abbrev vQ (r : Option Ky) : MV := .inr (.inr (.inl r))
abbrev vR (k : Ky) : MV := .inr (.inr (.inl (some k)))
abbrev vN : MV := .inr (.inr (.inl none))
abbrev vU : MV := .inr (.inr (.inr ()))
abbrev MemI : Type := Ky → Nat → Int32
abbrev MemL : Type := Ky → Nat → Int64
abbrev MemR : Type := Ky → Nat → Option Ky
def k_enc (ad : Ky → Nat) (v : MV) : Value := match v with
  | .inl x => .int x
  | .inr (.inl x) => .long x
  | .inr (.inr (.inl r)) => va_rf (r.map ad)
  | .inr (.inr (.inr _)) => .null
def k_isL (v : MV) : Bool := match v with
  | .inr (.inl _) => true
  | _ => false
def k_isU (v : MV) : Bool := match v with
  | .inr (.inr (.inr _)) => true
  | _ => false
def k_ui (mi : MemI) (k : Ky) (j : Nat) (v : Int32) : MemI := fun k' j' => if k' = k ∧ j' = j then v else mi k' j'
def k_ul (ml : MemL) (k : Ky) (j : Nat) (v : Int64) : MemL := fun k' j' => if k' = k ∧ j' = j then v else ml k' j'
def k_ur (mr : MemR) (k : Ky) (j : Nat) (v : Option Ky) : MemR := fun k' j' => if k' = k ∧ j' = j then v else mr k' j'
/-- how many fields a kind's objects have -/
def k_nF (c : Nat) : Nat := match c with
  | 0 => 12 | 1 => 15 | 2 => 8 | 3 => 5 | 4 => 4 | 5 => 4 | 6 => 8 | 7 => 53 | _ => 0
/-- which fields hold references -/
def k_rf (c j : Nat) : Bool := match c with
  | 2 => decide (j < 2)
  | 3 => decide (j < 1)
  | 4 => decide (j < 1)
  | 5 => decide (j < 1)
  | 6 => !decide (j = 3)
  | 7 => decide (5 ≤ j ∧ j ≤ 27) || decide (33 ≤ j ∧ j ≤ 41) || decide (44 ≤ j ∧ j ≤ 47) || decide (j = 50)
  | _ => false
/-- the length of an array -/
def k_ln (k : Ky) : Nat := match k with
  | (8, 100, _) => 8
  | (8, 101, _) => 160
  | (8, 102, _) => 20
  | (8, 5, _) => 8
  | (8, 18, _) => 8
  | (8, 19, _) => 8
  | (8, 20, _) => 8
  | (8, 21, _) => 8
  | (8, 24, _) => 43
  | (8, 26, _) => 4
  | (8, 27, _) => 4
  | (8, 33, _) => 80
  | (8, 34, _) => 80
  | (8, 35, _) => 80
  | (8, 50, _) => 20
  | (8, _, _) => 6
  | (9, 1, _) => 1280
  | (9, _, _) => 160
  | (12, _, _) => 8
  | _ => 6
def k_cell (cy : Nat → ClassId) (ad : Ky → Nat) (mr : MemR) (mi : MemI) (ml : MemL) (k : Ky) : va_E :=
  if k.1 < 8 then .inr (k.1, (List.range (k_nF k.1)).map (fun j => if k_rf k.1 j = true then va_rf ((mr k j).map ad) else .int (mi k j)))
  else if k.1 = 8 then .inl (cy 8, k_ln k, .inl (mi k))
  else if k.1 = 9 then .inl (cy 9, k_ln k, .inr (.inl (ml k)))
  else .inl (cy k.1, k_ln k, .inr (.inr (.inr (.inr (fun j => (mr k j).map ad)))))
def k_ws (cy : Nat → ClassId) (ad : Ky → Nat) (ks : List Ky) (mr : MemR) (mi : MemI) (ml : MemL) : va_W := ks.map (fun k => (ad k, k_cell cy ad mr mi ml k))
def k_TY (cy : Nat → ClassId) : List (ClassId × FieldType) := [(cy 8, .int), (cy 9, .long), (cy 10, .object RX0), (cy 11, .object RX1), (cy 12, .object RX5)]
abbrev k_AB (bs : Nat) : Nat → Prop := fun q => bs ≤ q
/-- the keys' addresses are apart and not below the base -/
def k_ok (bs : Nat) (ad : Ky → Nat) (ks : List Ky) : Prop := (∀ (i j : Nat) (k k' : Ky), ks[i]? = some k → ks[j]? = some k' → ad k = ad k' → i = j) ∧ ∀ k ∈ ks, bs ≤ ad k
theorem k_okD {bs : Nat} {ad : Ky → Nat} {ks : List Ky} (h : k_ok bs ad ks) (cy : Nat → ClassId) (mr : MemR) (mi : MemI) (ml : MemL) : va_D (k_AB bs) (k_ws cy ad ks mr mi ml) := by
  refine ⟨fun i j p q hp hq hpq => ?_, fun i q hq => ?_⟩
  · rw [k_ws, List.getElem?_map] at hp hq
    cases hi : ks[i]? with
    | none => rw [hi] at hp; cases hp
    | some k =>
      cases hj : ks[j]? with
      | none => rw [hj] at hq; cases hq
      | some k' =>
        rw [hi] at hp
        rw [hj] at hq
        cases hp
        cases hq
        exact h.1 i j k k' hi hj hpq
  · rw [k_ws, List.getElem?_map] at hq
    cases hi : ks[i]? with
    | none => rw [hi] at hq; cases hq
    | some k =>
      rw [hi] at hq
      cases hq
      exact h.2 k (List.mem_of_getElem? hi)
theorem k_at {cy : Nat → ClassId} {ad : Ky → Nat} {ks : List Ky} {mr : MemR} {mi : MemI} {ml : MemL} {k : Ky} (hk : k ∈ ks) : ∃ n : Nat, ks[n]? = some k ∧ (k_ws cy ad ks mr mi ml)[n]? = some (ad k, k_cell cy ad mr mi ml k) := by
  obtain ⟨n, hn⟩ := List.getElem?_of_mem hk
  exact ⟨n, hn, by rw [k_ws, List.getElem?_map, hn]; rfl⟩
theorem k_set {bs : Nat} {cy : Nat → ClassId} {ad : Ky → Nat} {ks : List Ky} {mr mr' : MemR} {mi mi' : MemI} {ml ml' : MemL} {k : Ky} {n : Nat} {e : va_E} (hok : k_ok bs ad ks) (hn : ks[n]? = some k) (he : e = k_cell cy ad mr' mi' ml' k) (hf : ∀ k', k' ≠ k → k_cell cy ad mr' mi' ml' k' = k_cell cy ad mr mi ml k') :
    (k_ws cy ad ks mr mi ml).set n (ad k, e) = k_ws cy ad ks mr' mi' ml' := by
  subst he
  apply List.ext_getElem?
  intro i
  rw [List.getElem?_set]
  by_cases h : n = i
  · subst h
    have hlt : n < (k_ws cy ad ks mr mi ml).length := by
      rw [k_ws, List.length_map]
      exact (List.getElem?_eq_some_iff.mp hn).1
    simp only [if_true, hlt]
    rw [k_ws, List.getElem?_map, hn]
    rfl
  · simp only [h, if_false]
    rw [k_ws, k_ws, List.getElem?_map, List.getElem?_map]
    cases hi : ks[i]? with
    | none => rfl
    | some k' =>
      have hne : k' ≠ k := fun q => h (hok.1 n i k k' hn hi (by rw [q]))
      show some (ad k', k_cell cy ad mr mi ml k') = some (ad k', k_cell cy ad mr' mi' ml' k')
      rw [hf k' hne]
/-- the words that every method may use; the nest mates' words -/
def k_WS : List Cond := lw_tbl.filter goodWord
def k_isN (w : Cond) : Bool := match w with
  | .fieldLinkNest _ _ _ _ _ _ => true
  | .methodLinkNest _ _ _ _ => true
  | _ => false
def k_NW : List Cond := tables_1.filter k_isN
theorem k_inWS {w : Cond} (i : Nat) (h : tables_1[i]? = some w) (hg : goodWord w = true) : w ∈ k_WS := List.mem_filter.mpr ⟨List.mem_append_right _ (List.mem_of_getElem? h), hg⟩
theorem k_inNW {w : Cond} (i : Nat) (h : tables_1[i]? = some w) (hg : k_isN w = true) : w ∈ k_NW := List.mem_filter.mpr ⟨List.mem_of_getElem? h, hg⟩
theorem k_WSgood : GoodIn k_WS k_WS := fun w hw => ⟨hw, good_of_word (List.mem_filter.mp hw).2⟩
theorem k_Nw_warm {w : Cond} (hw : w ∈ k_NW) {s U : State} (hW : s.WarmedH U.vm) (h : va_Nw w s) : va_Nw w U := by
  have h2 := (List.mem_filter.mp hw).2
  cases w <;> first | cases h2 | skip
  all_goals first | exact va_Nw.warmF hW h | exact va_Nw.warmM hW h
theorem k_Nw_same {w : Cond} (hw : w ∈ k_NW) {s U : State} (hv : s.vm = U.vm) (h : va_Nw w s) : va_Nw w U := by
  have h2 := (List.mem_filter.mp hw).2
  cases w <;> first | cases h2 | skip
  all_goals exact va_Nw.same rfl hv h
theorem k_Nw_use {w : Cond} (hw : w ∈ k_NW) {U : State} {A : Array Value} (h : va_Nw w U) : w.before A U = true := by
  have h2 := (List.mem_filter.mp hw).2
  cases w <;> first | cases h2 | skip
  all_goals exact va_Nw.use rfl h
