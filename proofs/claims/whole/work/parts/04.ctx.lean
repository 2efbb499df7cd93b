/-! what holds of the machine around a walk: statics, texts, nest words; the context 'Cx'; the goal 'V'; the contract 'Ct' -/
def k_KA : Nat → Int32 := fun j => match j with
  | 0 => -1 | 1 => 0 | 2 => 0 | 3 => 2 | 4 => 0 | 5 => 4 | 6 => 3 | _ => 0
def k_BO : Nat → Int32 := fun j => match j with
  | 0 => 10 | 1 => 11 | 2 => 12 | 4 => 20 | 6 => 30 | 9 => 40 | 12 => 51 | 14 => 50 | 17 => 60 | 18 => 70 | 19 => 71 | _ => 0
def k_len : List Nat := [7, 6, 4, 5, 5, 4]
def k_byt : List (List Int32) := [[99, 105, 116, 105, 122, 101, 110], [98, 101, 103, 103, 97, 114], [119, 101, 97, 114], [104, 105, 100, 101, 115], [99, 111, 109, 101, 115], [112, 111, 115, 116]]
def k_tx : List (Nat × String) := [(123, "citizen"), (125, "beggar"), (127, "wear"), (128, "hides"), (130, "comes"), (132, "post")]
/-- the old cells and fields that nobody writes -/
def k_St (ad : Ky → Nat) (bs : Nat) (U : State) (H : Heap) : Prop :=
  va_Z RX6 "KIND_ABOVE" "[I" (.ref (ad (13, 0, 0))) (k_AB bs) U H ∧ va_T .int (ad (13, 0, 0)) 7 (fun j => .int (k_KA j)) (k_AB bs) U H ∧
  va_Z RX6 "BODIES" "[I" (.ref (ad (13, 1, 0))) (k_AB bs) U H ∧ va_T .int (ad (13, 1, 0)) 21 (fun j => .int (k_BO j)) (k_AB bs) U H ∧
  vk_S 6 k_len k_byt (fun i => ad (14, i, 0)) (fun i => ad (15, i, 0)) (k_AB bs) U H ∧
  va_Z "java/lang/String" "COMPACT_STRINGS" "Z" (.int 1) (k_AB bs) U H ∧ (va_Z "jdk/internal/util/Preconditions" "SIOOBE_FORMATTER" "Ljava/util/function/BiFunction;" .null (k_AB bs) U H ∨ va_Z "jdk/internal/util/Preconditions" "SIOOBE_FORMATTER" "Ljava/util/function/BiFunction;" (.ref (ad (16, 0, 0))) (k_AB bs) U H)
def k_Rs (ad : Ky → Nat) (U : State) : Prop := ∀ (w : Nat) (q : Nat × String), k_tx[w]? = some q → vk_R RX4 q.1 q.2 (ad (14, w, 0)) U
def k_Fx (D : va_G) (cy : Nat → ClassId) (ad : Ky → Nat) (bs : Nat) (ks : List Ky) (U : State) (H : Heap) : Prop :=
  bs ≤ H.size ∧ va_K D vwCl (k_TY cy) U ∧ (∀ w ∈ k_NW, va_Nw w U) ∧ k_ok bs ad ks ∧ k_St ad bs U H ∧ k_Rs ad U ∧ (va_AO RX0 U ∧ va_AO RX1 U ∧ va_AO RX5 U)
theorem k_St.moved {ad : Ky → Nat} {bs : Nat} {u U : State} {H : Heap} (hv : u.vm.Alike U.vm) (h : k_St ad bs u H) : k_St ad bs U H := by
  obtain ⟨h1, h2, h3, h4, h5, h6, h7⟩ := h
  exact ⟨h1.moved hv, h2.moved hv, h3.moved hv, h4.moved hv, h5.moved hv, h6.moved hv, h7.imp (fun h => h.moved hv) (fun h => h.moved hv)⟩
theorem k_St.kept {ad : Ky → Nat} {bs : Nat} {U : State} {H H1 : Heap} (h : k_St ad bs U H) (hq : ∀ a : Nat, a < H.size → ¬ k_AB bs a → H1[a]? = H[a]?) : k_St ad bs U H1 := by
  obtain ⟨h1, h2, h3, h4, h5, h6, h7⟩ := h
  exact ⟨h1.kept hq, h2.kept hq, h3.kept hq, h4.kept hq, h5.kept hq, h6.kept hq, h7.imp (fun h => h.kept hq) (fun h => h.kept hq)⟩
theorem k_Fx.warm {D : va_G} {cy : Nat → ClassId} {ad : Ky → Nat} {bs : Nat} {ks : List Ky} {s U : State} {H H1 : Heap} (hW : s.WarmedH U.vm) (h : k_Fx D cy ad bs ks s H) (hz : H.size ≤ H1.size) (hq : ∀ a : Nat, a < H.size → ¬ k_AB bs a → H1[a]? = H[a]?) : k_Fx D cy ad bs ks U H1 := by
  obtain ⟨h1, h2, h3, h4, h5, h6, h7, h8, h9⟩ := h
  exact ⟨Nat.le_trans h1 hz, va_K.moved hW.alike h2, fun w hw => k_Nw_warm hw hW (h3 w hw), h4, (h5.moved hW.alike).kept hq, fun w q hw => (h6 w q hw).warm hW, h7.moved hW.alike, h8.moved hW.alike, h9.moved hW.alike⟩
theorem k_Fx.same {D : va_G} {cy : Nat → ClassId} {ad : Ky → Nat} {bs : Nat} {ks : List Ky} {s U : State} {H : Heap} (hv : s.vm = U.vm) (h : k_Fx D cy ad bs ks s H) : k_Fx D cy ad bs ks U H := by
  obtain ⟨h1, h2, h3, h4, h5, h6, h7, h8, h9⟩ := h
  have ha : s.vm.Alike U.vm := hv ▸ Vm.Alike.refl s.vm
  exact ⟨h1, va_K.moved ha h2, fun w hw => k_Nw_same hw hv (h3 w hw), h4, h5.moved ha, fun w q hw => (h6 w q hw).same hv.symm, h7.moved ha, h8.moved ha, h9.moved ha⟩
/-- the locals, by their places; a long has its second half behind it as vU -/
def k_LH (ad : Ky → Nat) (ls : Array Slot) (L : List MV) : Prop := ls.size = L.length ∧ lv_wf ls ∧ ∀ (i : Nat) (v : MV), L[i]? = some v → k_isU v = false → ls[i]? = some (.val (k_enc ad v))
def k_prs (ad : Ky → Nat) (L : List MV) : List (Nat × Value) := (List.range L.length).filterMap (fun i => match L[i]? with
  | some v => if k_isU v = true then none else some (i, k_enc ad v)
  | none => none)
theorem k_prs_in {ad : Ky → Nat} {L : List MV} {i : Nat} {v : MV} (h : L[i]? = some v) (hu : k_isU v = false) : (i, k_enc ad v) ∈ k_prs ad L :=
  List.mem_filterMap.mpr ⟨i, List.mem_range.mpr (List.getElem?_eq_some_iff.mp h).1, by simp [h, hu]⟩
theorem k_prs_out {ad : Ky → Nat} {L : List MV} {q : Nat × Value} (h : q ∈ k_prs ad L) : ∃ v, L[q.1]? = some v ∧ k_isU v = false ∧ q.2 = k_enc ad v := by
  obtain ⟨i, -, hi⟩ := List.mem_filterMap.mp h
  cases hv : L[i]? with
  | none => rw [hv] at hi; cases hi
  | some v =>
    rw [hv] at hi
    cases hu : k_isU v with
    | true => simp [hu] at hi
    | false =>
      simp [hu] at hi
      subst hi
      exact ⟨v, hv, hu, rfl⟩
theorem k_LH.has {ad : Ky → Nat} {ls : Array Slot} {L : List MV} (h : k_LH ad ls L) : lv_has ls L.length (k_prs ad L) := by
  refine ⟨h.1, h.2.1, fun q hq => ?_⟩
  obtain ⟨v, h1, h2, h3⟩ := k_prs_out hq
  rw [h3]
  exact h.2.2 q.1 v h1 h2
theorem k_enc_cat {ad : Ky → Nat} {v : MV} : (k_enc ad v).category = 2 ↔ k_isL v = true := by
  rcases v with x | x | r | u
  · simp [k_enc, k_isL, Value.category]
  · simp [k_enc, k_isL, Value.category]
  · cases r <;> simp [k_enc, k_isL, Value.category, va_rf]
  · simp [k_enc, k_isL, Value.category]
/-- storing a value of one slot, where no long stands before the place -/
theorem k_LH.set {ad : Ky → Nat} {ls' : Array Slot} {L : List MV} {i : Nat} {v : MV} (hp : ∀ w, L[i - 1]? = some w → 0 < i → k_isL w = false) (h' : lv_has ls' L.length ((i, k_enc ad v) :: (k_prs ad L).filter (fun q => !(q.1 == i) && !(q.1 + 1 == i && q.2.category == 2)))) : k_LH ad ls' (L.set i v) := by
  refine ⟨by rw [List.length_set]; exact h'.1, h'.2.1, fun j w hj hu => ?_⟩
  rw [List.getElem?_set] at hj
  by_cases e : i = j
  · subst e
    simp only [if_true] at hj
    split at hj
    · cases hj
      exact h'.2.2 _ List.mem_cons_self
    · cases hj
  · simp only [e, if_false] at hj
    refine h'.2.2 (j, k_enc ad w) (List.mem_cons_of_mem _ (List.mem_filter.mpr ⟨k_prs_in hj hu, ?_⟩))
    simp only [Bool.and_eq_true, Bool.not_eq_true', beq_eq_false_iff_ne, ne_eq, Bool.and_eq_false_iff]
    refine ⟨fun q => e q.symm, ?_⟩
    by_cases e2 : j + 1 = i
    · right
      intro hc
      have := hp w (by rw [← e2]; exact hj) (by omega)
      rw [k_enc_cat.mp hc] at this
      cases this
    · left
      exact e2
/-- a method: its name, its bytes, its locals, its result -/
abbrev k_M : Type := MethodName × ByteArray × Nat × Option FieldType
def k_wm (M : k_M) : List Cond := Cond.code M.1 M.2.1 M.2.2.1 M.2.2.2 :: k_WS
def k_rm (nf : Nat) : Room := { frames := nf, cells := 0, slots := 0, locals := 40 * nf }
/-- the context of a walk through method M, as an entry at s gives it -/
def k_Cx (p : Program) (s : State) (m : MethodId) (args : Array Value) (meth : Method) (c : Code) (D : va_G) (cy : Nat → ClassId) (ad : Ky → Nat) (bs : Nat) (ks : List Ky) (M : k_M) : Prop :=
  CallFix p m c M.2.1 M.2.2.1 s args k_WS M.1.cls ∧ k_Fx D cy ad bs ks s s.heap ∧ meth.sig.returnType = M.2.2.2 ∧ meth.locks = false ∧ meth.name = M.1.name
def k_V (p : Program) (l : Launch) (e : Env) (R : Room) (s : State) (m : MethodId) (args : Array Value) (below : List Frame) (meth : Method) (c : Code) (D : va_G) (cy : Nat → ClassId) (ad : Ky → Nat) (bs : Nat) (ks : List Ky) (mr : MemR) (cells slots : Nat) (Q : State → Prop) (mi : MemI) (ml : MemL) (pc : Nat) (L : List MV) (st : List MV) : Prop :=
  ∀ (H : Heap) (locs : List Loc) (ls : Array Slot), va_P D vwCl (k_ws cy ad ks mr mi ml) H → va_S (k_AB bs) s.heap H locs → k_LH ad ls L → W p l e R s m args below meth c H locs cells slots Q (F0 m pc ls (st.map (k_enc ad)))
def k_Qc (D : va_G) (cy : Nat → ClassId) (ad : Ky → Nat) (bs : Nat) (ks : List Ky) (mr : MemR) (P : Option MV → MemI → MemL → Prop) : Array Value → State → Outcome → State → Prop := fun _ st o t =>
  (∃ (r : Option MV) (mi : MemI) (ml : MemL), o = .returned (r.map (k_enc ad)) ∧ P r mi ml ∧ va_P D vwCl (k_ws cy ad ks mr mi ml) t.heap) ∧ va_F (k_AB bs) st t
def k_Pc (D : va_G) (cy : Nat → ClassId) (ad : Ky → Nat) (bs : Nat) (ks : List Ky) (mr : MemR) (mi : MemI) (ml : MemL) (as : List MV) : Array Value → State → Prop := va_Pc (as.map (k_enc ad)) (fun U => va_P D vwCl (k_ws cy ad ks mr mi ml) U.heap ∧ k_Fx D cy ad bs ks U U.heap)
/-- the contract of M at these arguments and this memory, over the cells ks: it returns, and P holds of the answer and the memory then -/
def k_Ct (ks : List Ky) (mr : MemR) (M : k_M) (nf : Nat) (as : List MV) (mi : MemI) (ml : MemL) (P : Option MV → MemI → MemL → Prop) : Prop :=
  ∀ (l : Launch) (D : va_G) (cy : Nat → ClassId) (ad : Ky → Nat) (bs : Nat), Met l M.1 (k_wm M) (k_rm nf) (k_Pc D cy ad bs ks mr mi ml as) (k_Qc D cy ad bs ks mr P) 0 0 (k_AB bs)
def k_ex (as : List MV) : List MV := as.flatMap (fun v => if k_isL v = true then [v, vU] else [v])
