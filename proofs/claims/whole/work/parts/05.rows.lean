/-! one-instruction rows over 'k_V' -/
section KR
variable {p : Program} {l : Launch} {e : Env} {R : Room} {s : State} {m : MethodId} {args : Array Value} {below : List Frame} {meth : Method} {c : Code} {D : va_G} {cy : Nat → ClassId} {ad : Ky → Nat} {bs : Nat} {ks : List Ky} {mr : MemR} {cells slots : Nat} {Q : State → Prop} {mi : MemI} {ml : MemL} {pc : Nat} {L st : List MV} {M : k_M}
theorem k_iconst (C : k_Cx p s m args meth c D cy ad bs ks M) {n : Int} {v : Int32} (d : decode M.2.1 pc = .ok (.iconst n, 1)) (hv : Int32.ofInt n = v) (k : k_V p l e R s m args below meth c D cy ad bs ks mr cells slots Q mi ml (pc + 1) (L) (vI v :: st)) : k_V p l e R s m args below meth c D cy ad bs ks mr cells slots Q mi ml (pc) (L) (st) := by
  obtain ⟨⟨hx, hb, hml, hown, hts⟩, hF, hr, hlk, hnm⟩ := C
  intro H locs ls hP hS hl
  exact lv_iconst hx hb d hv (k H locs ls hP hS hl)
theorem k_bipush (C : k_Cx p s m args meth c D cy ad bs ks M) {n : Int} {v : Int32} (d : decode M.2.1 pc = .ok (.bipush n, 2)) (hv : (Int8.ofInt n).toInt32 = v) (k : k_V p l e R s m args below meth c D cy ad bs ks mr cells slots Q mi ml (pc + 2) (L) (vI v :: st)) : k_V p l e R s m args below meth c D cy ad bs ks mr cells slots Q mi ml (pc) (L) (st) := by
  obtain ⟨⟨hx, hb, hml, hown, hts⟩, hF, hr, hlk, hnm⟩ := C
  intro H locs ls hP hS hl
  exact lv_bipush hx hb d hv (k H locs ls hP hS hl)
theorem k_sipush (C : k_Cx p s m args meth c D cy ad bs ks M) {n : Int} {v : Int32} (d : decode M.2.1 pc = .ok (.sipush n, 3)) (hv : (Int16.ofInt n).toInt32 = v) (k : k_V p l e R s m args below meth c D cy ad bs ks mr cells slots Q mi ml (pc + 3) (L) (vI v :: st)) : k_V p l e R s m args below meth c D cy ad bs ks mr cells slots Q mi ml (pc) (L) (st) := by
  obtain ⟨⟨hx, hb, hml, hown, hts⟩, hF, hr, hlk, hnm⟩ := C
  intro H locs ls hP hS hl
  exact lv_sipush hx hb d hv (k H locs ls hP hS hl)
theorem k_lconst (C : k_Cx p s m args meth c D cy ad bs ks M) {n : Fin 2} {v : Int64} (d : decode M.2.1 pc = .ok (.lconst n, 1)) (hv : Int64.ofNat (n : Nat) = v) (k : k_V p l e R s m args below meth c D cy ad bs ks mr cells slots Q mi ml (pc + 1) (L) (vL v :: st)) : k_V p l e R s m args below meth c D cy ad bs ks mr cells slots Q mi ml (pc) (L) (st) := by
  obtain ⟨⟨hx, hb, hml, hown, hts⟩, hF, hr, hlk, hnm⟩ := C
  intro H locs ls hP hS hl
  exact lv_lconst hx hb d hv (k H locs ls hP hS hl)
theorem k_null (C : k_Cx p s m args meth c D cy ad bs ks M) (d : decode M.2.1 pc = .ok (.aconst_null, 1)) (k : k_V p l e R s m args below meth c D cy ad bs ks mr cells slots Q mi ml (pc + 1) (L) (vN :: st)) : k_V p l e R s m args below meth c D cy ad bs ks mr cells slots Q mi ml (pc) (L) (st) := by
  obtain ⟨⟨hx, hb, hml, hown, hts⟩, hF, hr, hlk, hnm⟩ := C
  intro H locs ls hP hS hl
  exact lv_null hx hb d (k H locs ls hP hS hl)
theorem k_ldc (C : k_Cx p s m args meth c D cy ad bs ks M) {n : Nat} {v : Int32} (hw : Cond.constant M.1.cls n v ∈ k_WS) (d : decode M.2.1 pc = .ok (.ldc n, 2)) (k : k_V p l e R s m args below meth c D cy ad bs ks mr cells slots Q mi ml (pc + 2) (L) (vI v :: st)) : k_V p l e R s m args below meth c D cy ad bs ks mr cells slots Q mi ml (pc) (L) (st) := by
  obtain ⟨⟨hx, hb, hml, hown, hts⟩, hF, hr, hlk, hnm⟩ := C
  intro H locs ls hP hS hl
  exact lv_ldc hx hb hown (hts _ hw) d (k H locs ls hP hS hl)
theorem k_iload (C : k_Cx p s m args meth c D cy ad bs ks M) {i : Nat} {x : Int32} (d : decode M.2.1 pc = .ok (.iload i, 2)) (h : L[i]? = some (vI x)) (k : k_V p l e R s m args below meth c D cy ad bs ks mr cells slots Q mi ml (pc + 2) (L) (vI x :: st)) : k_V p l e R s m args below meth c D cy ad bs ks mr cells slots Q mi ml (pc) (L) (st) := by
  obtain ⟨⟨hx, hb, hml, hown, hts⟩, hF, hr, hlk, hnm⟩ := C
  intro H locs ls hP hS hl
  exact lv_iload hx hb d (hl.2.2 i _ h rfl) (k H locs ls hP hS hl)
theorem k_iload_n (C : k_Cx p s m args meth c D cy ad bs ks M) {i : Fin 4} {x : Int32} (d : decode M.2.1 pc = .ok (.iload_n i, 1)) (h : L[(i : Nat)]? = some (vI x)) (k : k_V p l e R s m args below meth c D cy ad bs ks mr cells slots Q mi ml (pc + 1) (L) (vI x :: st)) : k_V p l e R s m args below meth c D cy ad bs ks mr cells slots Q mi ml (pc) (L) (st) := by
  obtain ⟨⟨hx, hb, hml, hown, hts⟩, hF, hr, hlk, hnm⟩ := C
  intro H locs ls hP hS hl
  exact lv_iload_n hx hb d rfl (hl.2.2 _ _ h rfl) (k H locs ls hP hS hl)
theorem k_lload (C : k_Cx p s m args meth c D cy ad bs ks M) {i : Nat} {x : Int64} (d : decode M.2.1 pc = .ok (.lload i, 2)) (h : L[i]? = some (vL x)) (k : k_V p l e R s m args below meth c D cy ad bs ks mr cells slots Q mi ml (pc + 2) (L) (vL x :: st)) : k_V p l e R s m args below meth c D cy ad bs ks mr cells slots Q mi ml (pc) (L) (st) := by
  obtain ⟨⟨hx, hb, hml, hown, hts⟩, hF, hr, hlk, hnm⟩ := C
  intro H locs ls hP hS hl
  exact lv_lload hx hb d (hl.2.2 i _ h rfl) (k H locs ls hP hS hl)
theorem k_lload_n (C : k_Cx p s m args meth c D cy ad bs ks M) {i : Fin 4} {x : Int64} (d : decode M.2.1 pc = .ok (.lload_n i, 1)) (h : L[(i : Nat)]? = some (vL x)) (k : k_V p l e R s m args below meth c D cy ad bs ks mr cells slots Q mi ml (pc + 1) (L) (vL x :: st)) : k_V p l e R s m args below meth c D cy ad bs ks mr cells slots Q mi ml (pc) (L) (st) := by
  obtain ⟨⟨hx, hb, hml, hown, hts⟩, hF, hr, hlk, hnm⟩ := C
  intro H locs ls hP hS hl
  exact lv_lload_n hx hb d rfl (hl.2.2 _ _ h rfl) (k H locs ls hP hS hl)
theorem k_aload (C : k_Cx p s m args meth c D cy ad bs ks M) {i : Nat} {r : Option Ky} (d : decode M.2.1 pc = .ok (.aload i, 2)) (h : L[i]? = some (vQ r)) (k : k_V p l e R s m args below meth c D cy ad bs ks mr cells slots Q mi ml (pc + 2) (L) (vQ r :: st)) : k_V p l e R s m args below meth c D cy ad bs ks mr cells slots Q mi ml (pc) (L) (st) := by
  obtain ⟨⟨hx, hb, hml, hown, hts⟩, hF, hr, hlk, hnm⟩ := C
  intro H locs ls hP hS hl
  have h1 := hl.2.2 i _ h rfl
  cases r with
  | none => exact lv_aloadN hx hb d h1 (k H locs ls hP hS hl)
  | some r => exact lv_aload hx hb d h1 (k H locs ls hP hS hl)
theorem k_aload_n (C : k_Cx p s m args meth c D cy ad bs ks M) {i : Fin 4} {r : Option Ky} (d : decode M.2.1 pc = .ok (.aload_n i, 1)) (h : L[(i : Nat)]? = some (vQ r)) (k : k_V p l e R s m args below meth c D cy ad bs ks mr cells slots Q mi ml (pc + 1) (L) (vQ r :: st)) : k_V p l e R s m args below meth c D cy ad bs ks mr cells slots Q mi ml (pc) (L) (st) := by
  obtain ⟨⟨hx, hb, hml, hown, hts⟩, hF, hr, hlk, hnm⟩ := C
  intro H locs ls hP hS hl
  have h1 := hl.2.2 _ _ h rfl
  cases r with
  | none => exact lv_aload_nN hx hb d rfl h1 (k H locs ls hP hS hl)
  | some r => exact lv_aload_n hx hb d rfl h1 (k H locs ls hP hS hl)
theorem k_istoreG (C : k_Cx p s m args meth c D cy ad bs ks M) {i : Nat} {x : Int32} (d : decode M.2.1 pc = .ok (.istore i, 2)) (hp : ∀ w, L[i - 1]? = some w → 0 < i → k_isL w = false) (hi : i < L.length) (k : k_V p l e R s m args below meth c D cy ad bs ks mr cells slots Q mi ml (pc + 2) (L.set i (vI x)) (st)) : k_V p l e R s m args below meth c D cy ad bs ks mr cells slots Q mi ml (pc) (L) (vI x :: st) := by
  obtain ⟨⟨hx, hb, hml, hown, hts⟩, hF, hr, hlk, hnm⟩ := C
  intro H locs ls hP hS hl
  exact lv_istore hx hb d hl.has hi rfl (fun ls' h => k H locs ls' hP hS (k_LH.set (v := vI x) hp h))
theorem k_istore_nG (C : k_Cx p s m args meth c D cy ad bs ks M) {f : Fin 4} {i : Nat} (hfi : (f : Nat) = i) {x : Int32} (d : decode M.2.1 pc = .ok (.istore_n f, 1)) (hp : ∀ w, L[i - 1]? = some w → 0 < i → k_isL w = false) (hi : i < L.length) (k : k_V p l e R s m args below meth c D cy ad bs ks mr cells slots Q mi ml (pc + 1) (L.set i (vI x)) (st)) : k_V p l e R s m args below meth c D cy ad bs ks mr cells slots Q mi ml (pc) (L) (vI x :: st) := by
  obtain ⟨⟨hx, hb, hml, hown, hts⟩, hF, hr, hlk, hnm⟩ := C
  intro H locs ls hP hS hl
  exact lv_istore_n hx hb d hfi hl.has hi rfl (fun ls' h => k H locs ls' hP hS (k_LH.set (v := vI x) hp h))
theorem k_astoreG (C : k_Cx p s m args meth c D cy ad bs ks M) {i : Nat}  {r : Option Ky} (d : decode M.2.1 pc = .ok (.astore i, 2)) (hp : ∀ w, L[i - 1]? = some w → 0 < i → k_isL w = false) (hi : i < L.length) (k : k_V p l e R s m args below meth c D cy ad bs ks mr cells slots Q mi ml (pc + 2) (L.set i (vQ r)) (st)) : k_V p l e R s m args below meth c D cy ad bs ks mr cells slots Q mi ml (pc) (L) (vQ r :: st) := by
  obtain ⟨⟨hx, hb, hml, hown, hts⟩, hF, hr, hlk, hnm⟩ := C
  intro H locs ls hP hS hl
  cases r with
  | none => exact lv_astoreN hx hb d hl.has hi rfl (fun ls' h => k H locs ls' hP hS (k_LH.set (v := vQ none) hp h))
  | some r => exact lv_astore hx hb d hl.has hi rfl (fun ls' h => k H locs ls' hP hS (k_LH.set (v := vQ (some r)) hp h))
theorem k_astore_nG (C : k_Cx p s m args meth c D cy ad bs ks M) {i : Nat} {f : Fin 4} (hfi : (f : Nat) = i) {r : Option Ky} (d : decode M.2.1 pc = .ok (.astore_n f, 1)) (hp : ∀ w, L[i - 1]? = some w → 0 < i → k_isL w = false) (hi : i < L.length) (k : k_V p l e R s m args below meth c D cy ad bs ks mr cells slots Q mi ml (pc + 1) (L.set i (vQ r)) (st)) : k_V p l e R s m args below meth c D cy ad bs ks mr cells slots Q mi ml (pc) (L) (vQ r :: st) := by
  obtain ⟨⟨hx, hb, hml, hown, hts⟩, hF, hr, hlk, hnm⟩ := C
  intro H locs ls hP hS hl
  cases r with
  | none => exact lv_astore_nN hx hb d hfi hl.has hi rfl (fun ls' h => k H locs ls' hP hS (k_LH.set (v := vQ none) hp h))
  | some r => exact lv_astore_n hx hb d hfi hl.has hi rfl (fun ls' h => k H locs ls' hP hS (k_LH.set (v := vQ (some r)) hp h))
theorem k_iincG (C : k_Cx p s m args meth c D cy ad bs ks M) {i : Nat} {n : Int} {x v : Int32} (d : decode M.2.1 pc = .ok (.iinc i n, 3)) (hv : x + Int32.ofInt n = v) (hxi : L[i]? = some (vI x)) (hp : ∀ w, L[i - 1]? = some w → 0 < i → k_isL w = false) (hi : i < L.length) (k : k_V p l e R s m args below meth c D cy ad bs ks mr cells slots Q mi ml (pc + 3) (L.set i (vI v)) (st)) : k_V p l e R s m args below meth c D cy ad bs ks mr cells slots Q mi ml (pc) (L) (st) := by
  obtain ⟨⟨hx, hb, hml, hown, hts⟩, hF, hr, hlk, hnm⟩ := C
  intro H locs ls hP hS hl
  obtain ⟨kk, hkk⟩ := List.getElem?_of_mem (k_prs_in (ad := ad) hxi rfl)
  exact lv_iinc hx hb d hl.has hkk hv hi rfl (fun ls' h => k H locs ls' hP hS (k_LH.set (v := vI v) hp h))
theorem k_istore_0 (C : k_Cx p s m args meth c D cy ad bs ks M) {b : MV} {t : List MV} {x : Int32} (d : decode M.2.1 pc = .ok (.istore_n 0, 1))  (k : k_V p l e R s m args below meth c D cy ad bs ks mr cells slots Q mi ml (pc + 1) (vI x :: t) (st)) : k_V p l e R s m args below meth c D cy ad bs ks mr cells slots Q mi ml (pc) (b :: t) (vI x :: st) :=
  k_istore_nG C (i := 0) rfl d (fun w h z => absurd z (Nat.lt_irrefl 0)) (by simp) k
theorem k_astore_0 (C : k_Cx p s m args meth c D cy ad bs ks M) {b : MV} {t : List MV} {x : Option Ky} (d : decode M.2.1 pc = .ok (.astore_n 0, 1))  (k : k_V p l e R s m args below meth c D cy ad bs ks mr cells slots Q mi ml (pc + 1) (vQ x :: t) (st)) : k_V p l e R s m args below meth c D cy ad bs ks mr cells slots Q mi ml (pc) (b :: t) (vQ x :: st) :=
  k_astore_nG C (i := 0) rfl d (fun w h z => absurd z (Nat.lt_irrefl 0)) (by simp) k
theorem k_iinc_0 (C : k_Cx p s m args meth c D cy ad bs ks M) {x : Int32} {t : List MV} {n : Int} {v : Int32} (d : decode M.2.1 pc = .ok (.iinc 0 n, 3)) (hv : x + Int32.ofInt n = v)  (k : k_V p l e R s m args below meth c D cy ad bs ks mr cells slots Q mi ml (pc + 3) (vI v :: t) (st)) : k_V p l e R s m args below meth c D cy ad bs ks mr cells slots Q mi ml (pc) (vI x :: t) (st) :=
  k_iincG C (i := 0) d hv (by simp) (fun w h z => absurd z (Nat.lt_irrefl 0)) (by simp) k
theorem k_istore_1 (C : k_Cx p s m args meth c D cy ad bs ks M) {a0 b : MV} {t : List MV} {x : Int32} (d : decode M.2.1 pc = .ok (.istore_n 1, 1)) (h0 : k_isL a0 = false) (k : k_V p l e R s m args below meth c D cy ad bs ks mr cells slots Q mi ml (pc + 1) (a0 :: vI x :: t) (st)) : k_V p l e R s m args below meth c D cy ad bs ks mr cells slots Q mi ml (pc) (a0 :: b :: t) (vI x :: st) :=
  k_istore_nG C (i := 1) rfl d (fun w h z => by simp at h; subst h; exact h0) (by simp) k
theorem k_astore_1 (C : k_Cx p s m args meth c D cy ad bs ks M) {a0 b : MV} {t : List MV} {x : Option Ky} (d : decode M.2.1 pc = .ok (.astore_n 1, 1)) (h0 : k_isL a0 = false) (k : k_V p l e R s m args below meth c D cy ad bs ks mr cells slots Q mi ml (pc + 1) (a0 :: vQ x :: t) (st)) : k_V p l e R s m args below meth c D cy ad bs ks mr cells slots Q mi ml (pc) (a0 :: b :: t) (vQ x :: st) :=
  k_astore_nG C (i := 1) rfl d (fun w h z => by simp at h; subst h; exact h0) (by simp) k
theorem k_iinc_1 (C : k_Cx p s m args meth c D cy ad bs ks M) {a0 : MV} {x : Int32} {t : List MV} {n : Int} {v : Int32} (d : decode M.2.1 pc = .ok (.iinc 1 n, 3)) (hv : x + Int32.ofInt n = v) (h0 : k_isL a0 = false) (k : k_V p l e R s m args below meth c D cy ad bs ks mr cells slots Q mi ml (pc + 3) (a0 :: vI v :: t) (st)) : k_V p l e R s m args below meth c D cy ad bs ks mr cells slots Q mi ml (pc) (a0 :: vI x :: t) (st) :=
  k_iincG C (i := 1) d hv (by simp) (fun w h z => by simp at h; subst h; exact h0) (by simp) k
theorem k_istore_2 (C : k_Cx p s m args meth c D cy ad bs ks M) {a0 a1 b : MV} {t : List MV} {x : Int32} (d : decode M.2.1 pc = .ok (.istore_n 2, 1)) (h0 : k_isL a1 = false) (k : k_V p l e R s m args below meth c D cy ad bs ks mr cells slots Q mi ml (pc + 1) (a0 :: a1 :: vI x :: t) (st)) : k_V p l e R s m args below meth c D cy ad bs ks mr cells slots Q mi ml (pc) (a0 :: a1 :: b :: t) (vI x :: st) :=
  k_istore_nG C (i := 2) rfl d (fun w h z => by simp at h; subst h; exact h0) (by simp) k
theorem k_astore_2 (C : k_Cx p s m args meth c D cy ad bs ks M) {a0 a1 b : MV} {t : List MV} {x : Option Ky} (d : decode M.2.1 pc = .ok (.astore_n 2, 1)) (h0 : k_isL a1 = false) (k : k_V p l e R s m args below meth c D cy ad bs ks mr cells slots Q mi ml (pc + 1) (a0 :: a1 :: vQ x :: t) (st)) : k_V p l e R s m args below meth c D cy ad bs ks mr cells slots Q mi ml (pc) (a0 :: a1 :: b :: t) (vQ x :: st) :=
  k_astore_nG C (i := 2) rfl d (fun w h z => by simp at h; subst h; exact h0) (by simp) k
theorem k_iinc_2 (C : k_Cx p s m args meth c D cy ad bs ks M) {a0 a1 : MV} {x : Int32} {t : List MV} {n : Int} {v : Int32} (d : decode M.2.1 pc = .ok (.iinc 2 n, 3)) (hv : x + Int32.ofInt n = v) (h0 : k_isL a1 = false) (k : k_V p l e R s m args below meth c D cy ad bs ks mr cells slots Q mi ml (pc + 3) (a0 :: a1 :: vI v :: t) (st)) : k_V p l e R s m args below meth c D cy ad bs ks mr cells slots Q mi ml (pc) (a0 :: a1 :: vI x :: t) (st) :=
  k_iincG C (i := 2) d hv (by simp) (fun w h z => by simp at h; subst h; exact h0) (by simp) k
theorem k_istore_3 (C : k_Cx p s m args meth c D cy ad bs ks M) {a0 a1 a2 b : MV} {t : List MV} {x : Int32} (d : decode M.2.1 pc = .ok (.istore_n 3, 1)) (h0 : k_isL a2 = false) (k : k_V p l e R s m args below meth c D cy ad bs ks mr cells slots Q mi ml (pc + 1) (a0 :: a1 :: a2 :: vI x :: t) (st)) : k_V p l e R s m args below meth c D cy ad bs ks mr cells slots Q mi ml (pc) (a0 :: a1 :: a2 :: b :: t) (vI x :: st) :=
  k_istore_nG C (i := 3) rfl d (fun w h z => by simp at h; subst h; exact h0) (by simp) k
theorem k_astore_3 (C : k_Cx p s m args meth c D cy ad bs ks M) {a0 a1 a2 b : MV} {t : List MV} {x : Option Ky} (d : decode M.2.1 pc = .ok (.astore_n 3, 1)) (h0 : k_isL a2 = false) (k : k_V p l e R s m args below meth c D cy ad bs ks mr cells slots Q mi ml (pc + 1) (a0 :: a1 :: a2 :: vQ x :: t) (st)) : k_V p l e R s m args below meth c D cy ad bs ks mr cells slots Q mi ml (pc) (a0 :: a1 :: a2 :: b :: t) (vQ x :: st) :=
  k_astore_nG C (i := 3) rfl d (fun w h z => by simp at h; subst h; exact h0) (by simp) k
theorem k_iinc_3 (C : k_Cx p s m args meth c D cy ad bs ks M) {a0 a1 a2 : MV} {x : Int32} {t : List MV} {n : Int} {v : Int32} (d : decode M.2.1 pc = .ok (.iinc 3 n, 3)) (hv : x + Int32.ofInt n = v) (h0 : k_isL a2 = false) (k : k_V p l e R s m args below meth c D cy ad bs ks mr cells slots Q mi ml (pc + 3) (a0 :: a1 :: a2 :: vI v :: t) (st)) : k_V p l e R s m args below meth c D cy ad bs ks mr cells slots Q mi ml (pc) (a0 :: a1 :: a2 :: vI x :: t) (st) :=
  k_iincG C (i := 3) d hv (by simp) (fun w h z => by simp at h; subst h; exact h0) (by simp) k
theorem k_istore_4 (C : k_Cx p s m args meth c D cy ad bs ks M) {a0 a1 a2 a3 b : MV} {t : List MV} {x : Int32} (d : decode M.2.1 pc = .ok (.istore 4, 2)) (h0 : k_isL a3 = false) (k : k_V p l e R s m args below meth c D cy ad bs ks mr cells slots Q mi ml (pc + 2) (a0 :: a1 :: a2 :: a3 :: vI x :: t) (st)) : k_V p l e R s m args below meth c D cy ad bs ks mr cells slots Q mi ml (pc) (a0 :: a1 :: a2 :: a3 :: b :: t) (vI x :: st) :=
  k_istoreG C (i := 4) d (fun w h z => by simp at h; subst h; exact h0) (by simp) k
theorem k_astore_4 (C : k_Cx p s m args meth c D cy ad bs ks M) {a0 a1 a2 a3 b : MV} {t : List MV} {x : Option Ky} (d : decode M.2.1 pc = .ok (.astore 4, 2)) (h0 : k_isL a3 = false) (k : k_V p l e R s m args below meth c D cy ad bs ks mr cells slots Q mi ml (pc + 2) (a0 :: a1 :: a2 :: a3 :: vQ x :: t) (st)) : k_V p l e R s m args below meth c D cy ad bs ks mr cells slots Q mi ml (pc) (a0 :: a1 :: a2 :: a3 :: b :: t) (vQ x :: st) :=
  k_astoreG C (i := 4) d (fun w h z => by simp at h; subst h; exact h0) (by simp) k
theorem k_iinc_4 (C : k_Cx p s m args meth c D cy ad bs ks M) {a0 a1 a2 a3 : MV} {x : Int32} {t : List MV} {n : Int} {v : Int32} (d : decode M.2.1 pc = .ok (.iinc 4 n, 3)) (hv : x + Int32.ofInt n = v) (h0 : k_isL a3 = false) (k : k_V p l e R s m args below meth c D cy ad bs ks mr cells slots Q mi ml (pc + 3) (a0 :: a1 :: a2 :: a3 :: vI v :: t) (st)) : k_V p l e R s m args below meth c D cy ad bs ks mr cells slots Q mi ml (pc) (a0 :: a1 :: a2 :: a3 :: vI x :: t) (st) :=
  k_iincG C (i := 4) d hv (by simp) (fun w h z => by simp at h; subst h; exact h0) (by simp) k
theorem k_istore_5 (C : k_Cx p s m args meth c D cy ad bs ks M) {a0 a1 a2 a3 a4 b : MV} {t : List MV} {x : Int32} (d : decode M.2.1 pc = .ok (.istore 5, 2)) (h0 : k_isL a4 = false) (k : k_V p l e R s m args below meth c D cy ad bs ks mr cells slots Q mi ml (pc + 2) (a0 :: a1 :: a2 :: a3 :: a4 :: vI x :: t) (st)) : k_V p l e R s m args below meth c D cy ad bs ks mr cells slots Q mi ml (pc) (a0 :: a1 :: a2 :: a3 :: a4 :: b :: t) (vI x :: st) :=
  k_istoreG C (i := 5) d (fun w h z => by simp at h; subst h; exact h0) (by simp) k
theorem k_astore_5 (C : k_Cx p s m args meth c D cy ad bs ks M) {a0 a1 a2 a3 a4 b : MV} {t : List MV} {x : Option Ky} (d : decode M.2.1 pc = .ok (.astore 5, 2)) (h0 : k_isL a4 = false) (k : k_V p l e R s m args below meth c D cy ad bs ks mr cells slots Q mi ml (pc + 2) (a0 :: a1 :: a2 :: a3 :: a4 :: vQ x :: t) (st)) : k_V p l e R s m args below meth c D cy ad bs ks mr cells slots Q mi ml (pc) (a0 :: a1 :: a2 :: a3 :: a4 :: b :: t) (vQ x :: st) :=
  k_astoreG C (i := 5) d (fun w h z => by simp at h; subst h; exact h0) (by simp) k
theorem k_iinc_5 (C : k_Cx p s m args meth c D cy ad bs ks M) {a0 a1 a2 a3 a4 : MV} {x : Int32} {t : List MV} {n : Int} {v : Int32} (d : decode M.2.1 pc = .ok (.iinc 5 n, 3)) (hv : x + Int32.ofInt n = v) (h0 : k_isL a4 = false) (k : k_V p l e R s m args below meth c D cy ad bs ks mr cells slots Q mi ml (pc + 3) (a0 :: a1 :: a2 :: a3 :: a4 :: vI v :: t) (st)) : k_V p l e R s m args below meth c D cy ad bs ks mr cells slots Q mi ml (pc) (a0 :: a1 :: a2 :: a3 :: a4 :: vI x :: t) (st) :=
  k_iincG C (i := 5) d hv (by simp) (fun w h z => by simp at h; subst h; exact h0) (by simp) k
theorem k_istore_6 (C : k_Cx p s m args meth c D cy ad bs ks M) {a0 a1 a2 a3 a4 a5 b : MV} {t : List MV} {x : Int32} (d : decode M.2.1 pc = .ok (.istore 6, 2)) (h0 : k_isL a5 = false) (k : k_V p l e R s m args below meth c D cy ad bs ks mr cells slots Q mi ml (pc + 2) (a0 :: a1 :: a2 :: a3 :: a4 :: a5 :: vI x :: t) (st)) : k_V p l e R s m args below meth c D cy ad bs ks mr cells slots Q mi ml (pc) (a0 :: a1 :: a2 :: a3 :: a4 :: a5 :: b :: t) (vI x :: st) :=
  k_istoreG C (i := 6) d (fun w h z => by simp at h; subst h; exact h0) (by simp) k
theorem k_astore_6 (C : k_Cx p s m args meth c D cy ad bs ks M) {a0 a1 a2 a3 a4 a5 b : MV} {t : List MV} {x : Option Ky} (d : decode M.2.1 pc = .ok (.astore 6, 2)) (h0 : k_isL a5 = false) (k : k_V p l e R s m args below meth c D cy ad bs ks mr cells slots Q mi ml (pc + 2) (a0 :: a1 :: a2 :: a3 :: a4 :: a5 :: vQ x :: t) (st)) : k_V p l e R s m args below meth c D cy ad bs ks mr cells slots Q mi ml (pc) (a0 :: a1 :: a2 :: a3 :: a4 :: a5 :: b :: t) (vQ x :: st) :=
  k_astoreG C (i := 6) d (fun w h z => by simp at h; subst h; exact h0) (by simp) k
theorem k_iinc_6 (C : k_Cx p s m args meth c D cy ad bs ks M) {a0 a1 a2 a3 a4 a5 : MV} {x : Int32} {t : List MV} {n : Int} {v : Int32} (d : decode M.2.1 pc = .ok (.iinc 6 n, 3)) (hv : x + Int32.ofInt n = v) (h0 : k_isL a5 = false) (k : k_V p l e R s m args below meth c D cy ad bs ks mr cells slots Q mi ml (pc + 3) (a0 :: a1 :: a2 :: a3 :: a4 :: a5 :: vI v :: t) (st)) : k_V p l e R s m args below meth c D cy ad bs ks mr cells slots Q mi ml (pc) (a0 :: a1 :: a2 :: a3 :: a4 :: a5 :: vI x :: t) (st) :=
  k_iincG C (i := 6) d hv (by simp) (fun w h z => by simp at h; subst h; exact h0) (by simp) k
theorem k_istore_7 (C : k_Cx p s m args meth c D cy ad bs ks M) {a0 a1 a2 a3 a4 a5 a6 b : MV} {t : List MV} {x : Int32} (d : decode M.2.1 pc = .ok (.istore 7, 2)) (h0 : k_isL a6 = false) (k : k_V p l e R s m args below meth c D cy ad bs ks mr cells slots Q mi ml (pc + 2) (a0 :: a1 :: a2 :: a3 :: a4 :: a5 :: a6 :: vI x :: t) (st)) : k_V p l e R s m args below meth c D cy ad bs ks mr cells slots Q mi ml (pc) (a0 :: a1 :: a2 :: a3 :: a4 :: a5 :: a6 :: b :: t) (vI x :: st) :=
  k_istoreG C (i := 7) d (fun w h z => by simp at h; subst h; exact h0) (by simp) k
theorem k_astore_7 (C : k_Cx p s m args meth c D cy ad bs ks M) {a0 a1 a2 a3 a4 a5 a6 b : MV} {t : List MV} {x : Option Ky} (d : decode M.2.1 pc = .ok (.astore 7, 2)) (h0 : k_isL a6 = false) (k : k_V p l e R s m args below meth c D cy ad bs ks mr cells slots Q mi ml (pc + 2) (a0 :: a1 :: a2 :: a3 :: a4 :: a5 :: a6 :: vQ x :: t) (st)) : k_V p l e R s m args below meth c D cy ad bs ks mr cells slots Q mi ml (pc) (a0 :: a1 :: a2 :: a3 :: a4 :: a5 :: a6 :: b :: t) (vQ x :: st) :=
  k_astoreG C (i := 7) d (fun w h z => by simp at h; subst h; exact h0) (by simp) k
theorem k_iinc_7 (C : k_Cx p s m args meth c D cy ad bs ks M) {a0 a1 a2 a3 a4 a5 a6 : MV} {x : Int32} {t : List MV} {n : Int} {v : Int32} (d : decode M.2.1 pc = .ok (.iinc 7 n, 3)) (hv : x + Int32.ofInt n = v) (h0 : k_isL a6 = false) (k : k_V p l e R s m args below meth c D cy ad bs ks mr cells slots Q mi ml (pc + 3) (a0 :: a1 :: a2 :: a3 :: a4 :: a5 :: a6 :: vI v :: t) (st)) : k_V p l e R s m args below meth c D cy ad bs ks mr cells slots Q mi ml (pc) (a0 :: a1 :: a2 :: a3 :: a4 :: a5 :: a6 :: vI x :: t) (st) :=
  k_iincG C (i := 7) d hv (by simp) (fun w h z => by simp at h; subst h; exact h0) (by simp) k
theorem k_istore_8 (C : k_Cx p s m args meth c D cy ad bs ks M) {a0 a1 a2 a3 a4 a5 a6 a7 b : MV} {t : List MV} {x : Int32} (d : decode M.2.1 pc = .ok (.istore 8, 2)) (h0 : k_isL a7 = false) (k : k_V p l e R s m args below meth c D cy ad bs ks mr cells slots Q mi ml (pc + 2) (a0 :: a1 :: a2 :: a3 :: a4 :: a5 :: a6 :: a7 :: vI x :: t) (st)) : k_V p l e R s m args below meth c D cy ad bs ks mr cells slots Q mi ml (pc) (a0 :: a1 :: a2 :: a3 :: a4 :: a5 :: a6 :: a7 :: b :: t) (vI x :: st) :=
  k_istoreG C (i := 8) d (fun w h z => by simp at h; subst h; exact h0) (by simp) k
theorem k_astore_8 (C : k_Cx p s m args meth c D cy ad bs ks M) {a0 a1 a2 a3 a4 a5 a6 a7 b : MV} {t : List MV} {x : Option Ky} (d : decode M.2.1 pc = .ok (.astore 8, 2)) (h0 : k_isL a7 = false) (k : k_V p l e R s m args below meth c D cy ad bs ks mr cells slots Q mi ml (pc + 2) (a0 :: a1 :: a2 :: a3 :: a4 :: a5 :: a6 :: a7 :: vQ x :: t) (st)) : k_V p l e R s m args below meth c D cy ad bs ks mr cells slots Q mi ml (pc) (a0 :: a1 :: a2 :: a3 :: a4 :: a5 :: a6 :: a7 :: b :: t) (vQ x :: st) :=
  k_astoreG C (i := 8) d (fun w h z => by simp at h; subst h; exact h0) (by simp) k
theorem k_iinc_8 (C : k_Cx p s m args meth c D cy ad bs ks M) {a0 a1 a2 a3 a4 a5 a6 a7 : MV} {x : Int32} {t : List MV} {n : Int} {v : Int32} (d : decode M.2.1 pc = .ok (.iinc 8 n, 3)) (hv : x + Int32.ofInt n = v) (h0 : k_isL a7 = false) (k : k_V p l e R s m args below meth c D cy ad bs ks mr cells slots Q mi ml (pc + 3) (a0 :: a1 :: a2 :: a3 :: a4 :: a5 :: a6 :: a7 :: vI v :: t) (st)) : k_V p l e R s m args below meth c D cy ad bs ks mr cells slots Q mi ml (pc) (a0 :: a1 :: a2 :: a3 :: a4 :: a5 :: a6 :: a7 :: vI x :: t) (st) :=
  k_iincG C (i := 8) d hv (by simp) (fun w h z => by simp at h; subst h; exact h0) (by simp) k
theorem k_istore_9 (C : k_Cx p s m args meth c D cy ad bs ks M) {a0 a1 a2 a3 a4 a5 a6 a7 a8 b : MV} {t : List MV} {x : Int32} (d : decode M.2.1 pc = .ok (.istore 9, 2)) (h0 : k_isL a8 = false) (k : k_V p l e R s m args below meth c D cy ad bs ks mr cells slots Q mi ml (pc + 2) (a0 :: a1 :: a2 :: a3 :: a4 :: a5 :: a6 :: a7 :: a8 :: vI x :: t) (st)) : k_V p l e R s m args below meth c D cy ad bs ks mr cells slots Q mi ml (pc) (a0 :: a1 :: a2 :: a3 :: a4 :: a5 :: a6 :: a7 :: a8 :: b :: t) (vI x :: st) :=
  k_istoreG C (i := 9) d (fun w h z => by simp at h; subst h; exact h0) (by simp) k
theorem k_astore_9 (C : k_Cx p s m args meth c D cy ad bs ks M) {a0 a1 a2 a3 a4 a5 a6 a7 a8 b : MV} {t : List MV} {x : Option Ky} (d : decode M.2.1 pc = .ok (.astore 9, 2)) (h0 : k_isL a8 = false) (k : k_V p l e R s m args below meth c D cy ad bs ks mr cells slots Q mi ml (pc + 2) (a0 :: a1 :: a2 :: a3 :: a4 :: a5 :: a6 :: a7 :: a8 :: vQ x :: t) (st)) : k_V p l e R s m args below meth c D cy ad bs ks mr cells slots Q mi ml (pc) (a0 :: a1 :: a2 :: a3 :: a4 :: a5 :: a6 :: a7 :: a8 :: b :: t) (vQ x :: st) :=
  k_astoreG C (i := 9) d (fun w h z => by simp at h; subst h; exact h0) (by simp) k
theorem k_iinc_9 (C : k_Cx p s m args meth c D cy ad bs ks M) {a0 a1 a2 a3 a4 a5 a6 a7 a8 : MV} {x : Int32} {t : List MV} {n : Int} {v : Int32} (d : decode M.2.1 pc = .ok (.iinc 9 n, 3)) (hv : x + Int32.ofInt n = v) (h0 : k_isL a8 = false) (k : k_V p l e R s m args below meth c D cy ad bs ks mr cells slots Q mi ml (pc + 3) (a0 :: a1 :: a2 :: a3 :: a4 :: a5 :: a6 :: a7 :: a8 :: vI v :: t) (st)) : k_V p l e R s m args below meth c D cy ad bs ks mr cells slots Q mi ml (pc) (a0 :: a1 :: a2 :: a3 :: a4 :: a5 :: a6 :: a7 :: a8 :: vI x :: t) (st) :=
  k_iincG C (i := 9) d hv (by simp) (fun w h z => by simp at h; subst h; exact h0) (by simp) k
theorem k_istore_10 (C : k_Cx p s m args meth c D cy ad bs ks M) {a0 a1 a2 a3 a4 a5 a6 a7 a8 a9 b : MV} {t : List MV} {x : Int32} (d : decode M.2.1 pc = .ok (.istore 10, 2)) (h0 : k_isL a9 = false) (k : k_V p l e R s m args below meth c D cy ad bs ks mr cells slots Q mi ml (pc + 2) (a0 :: a1 :: a2 :: a3 :: a4 :: a5 :: a6 :: a7 :: a8 :: a9 :: vI x :: t) (st)) : k_V p l e R s m args below meth c D cy ad bs ks mr cells slots Q mi ml (pc) (a0 :: a1 :: a2 :: a3 :: a4 :: a5 :: a6 :: a7 :: a8 :: a9 :: b :: t) (vI x :: st) :=
  k_istoreG C (i := 10) d (fun w h z => by simp at h; subst h; exact h0) (by simp) k
theorem k_astore_10 (C : k_Cx p s m args meth c D cy ad bs ks M) {a0 a1 a2 a3 a4 a5 a6 a7 a8 a9 b : MV} {t : List MV} {x : Option Ky} (d : decode M.2.1 pc = .ok (.astore 10, 2)) (h0 : k_isL a9 = false) (k : k_V p l e R s m args below meth c D cy ad bs ks mr cells slots Q mi ml (pc + 2) (a0 :: a1 :: a2 :: a3 :: a4 :: a5 :: a6 :: a7 :: a8 :: a9 :: vQ x :: t) (st)) : k_V p l e R s m args below meth c D cy ad bs ks mr cells slots Q mi ml (pc) (a0 :: a1 :: a2 :: a3 :: a4 :: a5 :: a6 :: a7 :: a8 :: a9 :: b :: t) (vQ x :: st) :=
  k_astoreG C (i := 10) d (fun w h z => by simp at h; subst h; exact h0) (by simp) k
theorem k_iinc_10 (C : k_Cx p s m args meth c D cy ad bs ks M) {a0 a1 a2 a3 a4 a5 a6 a7 a8 a9 : MV} {x : Int32} {t : List MV} {n : Int} {v : Int32} (d : decode M.2.1 pc = .ok (.iinc 10 n, 3)) (hv : x + Int32.ofInt n = v) (h0 : k_isL a9 = false) (k : k_V p l e R s m args below meth c D cy ad bs ks mr cells slots Q mi ml (pc + 3) (a0 :: a1 :: a2 :: a3 :: a4 :: a5 :: a6 :: a7 :: a8 :: a9 :: vI v :: t) (st)) : k_V p l e R s m args below meth c D cy ad bs ks mr cells slots Q mi ml (pc) (a0 :: a1 :: a2 :: a3 :: a4 :: a5 :: a6 :: a7 :: a8 :: a9 :: vI x :: t) (st) :=
  k_iincG C (i := 10) d hv (by simp) (fun w h z => by simp at h; subst h; exact h0) (by simp) k
theorem k_istore_11 (C : k_Cx p s m args meth c D cy ad bs ks M) {a0 a1 a2 a3 a4 a5 a6 a7 a8 a9 a10 b : MV} {t : List MV} {x : Int32} (d : decode M.2.1 pc = .ok (.istore 11, 2)) (h0 : k_isL a10 = false) (k : k_V p l e R s m args below meth c D cy ad bs ks mr cells slots Q mi ml (pc + 2) (a0 :: a1 :: a2 :: a3 :: a4 :: a5 :: a6 :: a7 :: a8 :: a9 :: a10 :: vI x :: t) (st)) : k_V p l e R s m args below meth c D cy ad bs ks mr cells slots Q mi ml (pc) (a0 :: a1 :: a2 :: a3 :: a4 :: a5 :: a6 :: a7 :: a8 :: a9 :: a10 :: b :: t) (vI x :: st) :=
  k_istoreG C (i := 11) d (fun w h z => by simp at h; subst h; exact h0) (by simp) k
theorem k_astore_11 (C : k_Cx p s m args meth c D cy ad bs ks M) {a0 a1 a2 a3 a4 a5 a6 a7 a8 a9 a10 b : MV} {t : List MV} {x : Option Ky} (d : decode M.2.1 pc = .ok (.astore 11, 2)) (h0 : k_isL a10 = false) (k : k_V p l e R s m args below meth c D cy ad bs ks mr cells slots Q mi ml (pc + 2) (a0 :: a1 :: a2 :: a3 :: a4 :: a5 :: a6 :: a7 :: a8 :: a9 :: a10 :: vQ x :: t) (st)) : k_V p l e R s m args below meth c D cy ad bs ks mr cells slots Q mi ml (pc) (a0 :: a1 :: a2 :: a3 :: a4 :: a5 :: a6 :: a7 :: a8 :: a9 :: a10 :: b :: t) (vQ x :: st) :=
  k_astoreG C (i := 11) d (fun w h z => by simp at h; subst h; exact h0) (by simp) k
theorem k_iinc_11 (C : k_Cx p s m args meth c D cy ad bs ks M) {a0 a1 a2 a3 a4 a5 a6 a7 a8 a9 a10 : MV} {x : Int32} {t : List MV} {n : Int} {v : Int32} (d : decode M.2.1 pc = .ok (.iinc 11 n, 3)) (hv : x + Int32.ofInt n = v) (h0 : k_isL a10 = false) (k : k_V p l e R s m args below meth c D cy ad bs ks mr cells slots Q mi ml (pc + 3) (a0 :: a1 :: a2 :: a3 :: a4 :: a5 :: a6 :: a7 :: a8 :: a9 :: a10 :: vI v :: t) (st)) : k_V p l e R s m args below meth c D cy ad bs ks mr cells slots Q mi ml (pc) (a0 :: a1 :: a2 :: a3 :: a4 :: a5 :: a6 :: a7 :: a8 :: a9 :: a10 :: vI x :: t) (st) :=
  k_iincG C (i := 11) d hv (by simp) (fun w h z => by simp at h; subst h; exact h0) (by simp) k
theorem k_iadd (C : k_Cx p s m args meth c D cy ad bs ks M) {x y : Int32} (d : decode M.2.1 pc = .ok (.iadd, 1)) (k : k_V p l e R s m args below meth c D cy ad bs ks mr cells slots Q mi ml (pc + 1) (L) (vI (x + y) :: st)) : k_V p l e R s m args below meth c D cy ad bs ks mr cells slots Q mi ml (pc) (L) (vI y :: vI x :: st) := by
  obtain ⟨⟨hx, hb, hml, hown, hts⟩, hF, hr, hlk, hnm⟩ := C
  intro H locs ls hP hS hl
  exact lv_iadd hx hb d (k H locs ls hP hS hl)
theorem k_isub (C : k_Cx p s m args meth c D cy ad bs ks M) {x y : Int32} (d : decode M.2.1 pc = .ok (.isub, 1)) (k : k_V p l e R s m args below meth c D cy ad bs ks mr cells slots Q mi ml (pc + 1) (L) (vI (x - y) :: st)) : k_V p l e R s m args below meth c D cy ad bs ks mr cells slots Q mi ml (pc) (L) (vI y :: vI x :: st) := by
  obtain ⟨⟨hx, hb, hml, hown, hts⟩, hF, hr, hlk, hnm⟩ := C
  intro H locs ls hP hS hl
  exact lv_isub hx hb d (k H locs ls hP hS hl)
theorem k_imul (C : k_Cx p s m args meth c D cy ad bs ks M) {x y : Int32} (d : decode M.2.1 pc = .ok (.imul, 1)) (k : k_V p l e R s m args below meth c D cy ad bs ks mr cells slots Q mi ml (pc + 1) (L) (vI (x * y) :: st)) : k_V p l e R s m args below meth c D cy ad bs ks mr cells slots Q mi ml (pc) (L) (vI y :: vI x :: st) := by
  obtain ⟨⟨hx, hb, hml, hown, hts⟩, hF, hr, hlk, hnm⟩ := C
  intro H locs ls hP hS hl
  exact lv_imul hx hb d (k H locs ls hP hS hl)
theorem k_iand (C : k_Cx p s m args meth c D cy ad bs ks M) {x y : Int32} (d : decode M.2.1 pc = .ok (.iand, 1)) (k : k_V p l e R s m args below meth c D cy ad bs ks mr cells slots Q mi ml (pc + 1) (L) (vI (x &&& y) :: st)) : k_V p l e R s m args below meth c D cy ad bs ks mr cells slots Q mi ml (pc) (L) (vI y :: vI x :: st) := by
  obtain ⟨⟨hx, hb, hml, hown, hts⟩, hF, hr, hlk, hnm⟩ := C
  intro H locs ls hP hS hl
  exact lv_iand hx hb d (k H locs ls hP hS hl)
theorem k_ior (C : k_Cx p s m args meth c D cy ad bs ks M) {x y : Int32} (d : decode M.2.1 pc = .ok (.ior, 1)) (k : k_V p l e R s m args below meth c D cy ad bs ks mr cells slots Q mi ml (pc + 1) (L) (vI (x ||| y) :: st)) : k_V p l e R s m args below meth c D cy ad bs ks mr cells slots Q mi ml (pc) (L) (vI y :: vI x :: st) := by
  obtain ⟨⟨hx, hb, hml, hown, hts⟩, hF, hr, hlk, hnm⟩ := C
  intro H locs ls hP hS hl
  exact lv_ior hx hb d (k H locs ls hP hS hl)
theorem k_ixor (C : k_Cx p s m args meth c D cy ad bs ks M) {x y : Int32} (d : decode M.2.1 pc = .ok (.ixor, 1)) (k : k_V p l e R s m args below meth c D cy ad bs ks mr cells slots Q mi ml (pc + 1) (L) (vI (x ^^^ y) :: st)) : k_V p l e R s m args below meth c D cy ad bs ks mr cells slots Q mi ml (pc) (L) (vI y :: vI x :: st) := by
  obtain ⟨⟨hx, hb, hml, hown, hts⟩, hF, hr, hlk, hnm⟩ := C
  intro H locs ls hP hS hl
  exact lv_ixor hx hb d (k H locs ls hP hS hl)
theorem k_ishl (C : k_Cx p s m args meth c D cy ad bs ks M) {x y : Int32} (d : decode M.2.1 pc = .ok (.ishl, 1)) (k : k_V p l e R s m args below meth c D cy ad bs ks mr cells slots Q mi ml (pc + 1) (L) (vI (x <<< (y &&& 31)) :: st)) : k_V p l e R s m args below meth c D cy ad bs ks mr cells slots Q mi ml (pc) (L) (vI y :: vI x :: st) := by
  obtain ⟨⟨hx, hb, hml, hown, hts⟩, hF, hr, hlk, hnm⟩ := C
  intro H locs ls hP hS hl
  exact lv_ishl hx hb d (k H locs ls hP hS hl)
theorem k_idiv (C : k_Cx p s m args meth c D cy ad bs ks M) {x y : Int32} (d : decode M.2.1 pc = .ok (.idiv, 1)) (hne : ¬ y = 0) (k : k_V p l e R s m args below meth c D cy ad bs ks mr cells slots Q mi ml (pc + 1) (L) (vI (x / y) :: st)) : k_V p l e R s m args below meth c D cy ad bs ks mr cells slots Q mi ml (pc) (L) (vI y :: vI x :: st) := by
  obtain ⟨⟨hx, hb, hml, hown, hts⟩, hF, hr, hlk, hnm⟩ := C
  intro H locs ls hP hS hl
  exact lv_idiv hx hb d hne (k H locs ls hP hS hl)
theorem k_irem (C : k_Cx p s m args meth c D cy ad bs ks M) {x y : Int32} (d : decode M.2.1 pc = .ok (.irem, 1)) (hne : ¬ y = 0) (k : k_V p l e R s m args below meth c D cy ad bs ks mr cells slots Q mi ml (pc + 1) (L) (vI (x - x / y * y) :: st)) : k_V p l e R s m args below meth c D cy ad bs ks mr cells slots Q mi ml (pc) (L) (vI y :: vI x :: st) := by
  obtain ⟨⟨hx, hb, hml, hown, hts⟩, hF, hr, hlk, hnm⟩ := C
  intro H locs ls hP hS hl
  exact lv_irem hx hb d hne (k H locs ls hP hS hl)
theorem k_ineg (C : k_Cx p s m args meth c D cy ad bs ks M) {x : Int32} (d : decode M.2.1 pc = .ok (.ineg, 1)) (k : k_V p l e R s m args below meth c D cy ad bs ks mr cells slots Q mi ml (pc + 1) (L) (vI (-x) :: st)) : k_V p l e R s m args below meth c D cy ad bs ks mr cells slots Q mi ml (pc) (L) (vI x :: st) := by
  obtain ⟨⟨hx, hb, hml, hown, hts⟩, hF, hr, hlk, hnm⟩ := C
  intro H locs ls hP hS hl
  exact lv_ineg hx hb d (k H locs ls hP hS hl)
theorem k_iushr (C : k_Cx p s m args meth c D cy ad bs ks M) {x y : Int32} (d : decode M.2.1 pc = .ok (.iushr, 1)) (k : k_V p l e R s m args below meth c D cy ad bs ks mr cells slots Q mi ml (pc + 1) (L) (vI (x.toUInt32 >>> (y.toUInt32 &&& Int32.toUInt32 31)).toInt32 :: st)) : k_V p l e R s m args below meth c D cy ad bs ks mr cells slots Q mi ml (pc) (L) (vI y :: vI x :: st) := by
  obtain ⟨⟨hx, hb, hml, hown, hts⟩, hF, hr, hlk, hnm⟩ := C
  intro H locs ls hP hS hl
  exact lv_iushr hx hb d rfl (k H locs ls hP hS hl)
theorem k_i2l (C : k_Cx p s m args meth c D cy ad bs ks M) {x : Int32} (d : decode M.2.1 pc = .ok (.i2l, 1)) (k : k_V p l e R s m args below meth c D cy ad bs ks mr cells slots Q mi ml (pc + 1) (L) (vL x.toInt64 :: st)) : k_V p l e R s m args below meth c D cy ad bs ks mr cells slots Q mi ml (pc) (L) (vI x :: st) := by
  obtain ⟨⟨hx, hb, hml, hown, hts⟩, hF, hr, hlk, hnm⟩ := C
  intro H locs ls hP hS hl
  exact lv_i2l hx hb d rfl (k H locs ls hP hS hl)
theorem k_l2i (C : k_Cx p s m args meth c D cy ad bs ks M) {x : Int64} (d : decode M.2.1 pc = .ok (.l2i, 1)) (k : k_V p l e R s m args below meth c D cy ad bs ks mr cells slots Q mi ml (pc + 1) (L) (vI x.toInt32 :: st)) : k_V p l e R s m args below meth c D cy ad bs ks mr cells slots Q mi ml (pc) (L) (vL x :: st) := by
  obtain ⟨⟨hx, hb, hml, hown, hts⟩, hF, hr, hlk, hnm⟩ := C
  intro H locs ls hP hS hl
  exact lv_l2i hx hb d rfl (k H locs ls hP hS hl)
theorem k_i2b (C : k_Cx p s m args meth c D cy ad bs ks M) {x : Int32} (d : decode M.2.1 pc = .ok (.i2b, 1)) (k : k_V p l e R s m args below meth c D cy ad bs ks mr cells slots Q mi ml (pc + 1) (L) (vI x.toInt8.toInt32 :: st)) : k_V p l e R s m args below meth c D cy ad bs ks mr cells slots Q mi ml (pc) (L) (vI x :: st) := by
  obtain ⟨⟨hx, hb, hml, hown, hts⟩, hF, hr, hlk, hnm⟩ := C
  intro H locs ls hP hS hl
  exact lv_i2b hx hb d rfl (k H locs ls hP hS hl)
theorem k_i2s (C : k_Cx p s m args meth c D cy ad bs ks M) {x : Int32} (d : decode M.2.1 pc = .ok (.i2s, 1)) (k : k_V p l e R s m args below meth c D cy ad bs ks mr cells slots Q mi ml (pc + 1) (L) (vI x.toInt16.toInt32 :: st)) : k_V p l e R s m args below meth c D cy ad bs ks mr cells slots Q mi ml (pc) (L) (vI x :: st) := by
  obtain ⟨⟨hx, hb, hml, hown, hts⟩, hF, hr, hlk, hnm⟩ := C
  intro H locs ls hP hS hl
  exact lv_i2s hx hb d rfl (k H locs ls hP hS hl)
theorem k_land (C : k_Cx p s m args meth c D cy ad bs ks M) {x y : Int64} (d : decode M.2.1 pc = .ok (.land, 1)) (k : k_V p l e R s m args below meth c D cy ad bs ks mr cells slots Q mi ml (pc + 1) (L) (vL (x &&& y) :: st)) : k_V p l e R s m args below meth c D cy ad bs ks mr cells slots Q mi ml (pc) (L) (vL y :: vL x :: st) := by
  obtain ⟨⟨hx, hb, hml, hown, hts⟩, hF, hr, hlk, hnm⟩ := C
  intro H locs ls hP hS hl
  exact lv_land hx hb d (k H locs ls hP hS hl)
theorem k_lor (C : k_Cx p s m args meth c D cy ad bs ks M) {x y : Int64} (d : decode M.2.1 pc = .ok (.lor, 1)) (k : k_V p l e R s m args below meth c D cy ad bs ks mr cells slots Q mi ml (pc + 1) (L) (vL (x ||| y) :: st)) : k_V p l e R s m args below meth c D cy ad bs ks mr cells slots Q mi ml (pc) (L) (vL y :: vL x :: st) := by
  obtain ⟨⟨hx, hb, hml, hown, hts⟩, hF, hr, hlk, hnm⟩ := C
  intro H locs ls hP hS hl
  exact lv_lor hx hb d (k H locs ls hP hS hl)
theorem k_lshl (C : k_Cx p s m args meth c D cy ad bs ks M) {x : Int64} {y : Int32} (d : decode M.2.1 pc = .ok (.lshl, 1)) (k : k_V p l e R s m args below meth c D cy ad bs ks mr cells slots Q mi ml (pc + 1) (L) (vL (x <<< (y.toInt64 &&& 63)) :: st)) : k_V p l e R s m args below meth c D cy ad bs ks mr cells slots Q mi ml (pc) (L) (vI y :: vL x :: st) := by
  obtain ⟨⟨hx, hb, hml, hown, hts⟩, hF, hr, hlk, hnm⟩ := C
  intro H locs ls hP hS hl
  exact lv_lshl hx hb d rfl (k H locs ls hP hS hl)
theorem k_lcmp (C : k_Cx p s m args meth c D cy ad bs ks M) {x y : Int64} (d : decode M.2.1 pc = .ok (.lcmp, 1)) (k : k_V p l e R s m args below meth c D cy ad bs ks mr cells slots Q mi ml (pc + 1) (L) (vI (lg_cmp x y) :: st)) : k_V p l e R s m args below meth c D cy ad bs ks mr cells slots Q mi ml (pc) (L) (vL y :: vL x :: st) := by
  obtain ⟨⟨hx, hb, hml, hown, hts⟩, hF, hr, hlk, hnm⟩ := C
  intro H locs ls hP hS hl
  exact W.lcmp hx hb d (k H locs ls hP hS hl)
theorem k_dup (C : k_Cx p s m args meth c D cy ad bs ks M) {va : MV} (d : decode M.2.1 pc = .ok (.dup, 1)) (ha : k_isL va = false) (k : k_V p l e R s m args below meth c D cy ad bs ks mr cells slots Q mi ml (pc + 1) (L) (va :: va :: st)) : k_V p l e R s m args below meth c D cy ad bs ks mr cells slots Q mi ml (pc) (L) (va :: st) := by
  obtain ⟨⟨hx, hb, hml, hown, hts⟩, hF, hr, hlk, hnm⟩ := C
  intro H locs ls hP hS hl
  have h1 : (k_enc ad va).category = 1 := by
    rcases lv_cat (k_enc ad va) with h | h
    · exact h
    · rw [k_enc_cat.mp h] at ha; cases ha
  exact lv_dup hx hb d h1 (k H locs ls hP hS hl)
theorem k_pop (C : k_Cx p s m args meth c D cy ad bs ks M) {va : MV} (d : decode M.2.1 pc = .ok (.pop, 1)) (ha : k_isL va = false) (k : k_V p l e R s m args below meth c D cy ad bs ks mr cells slots Q mi ml (pc + 1) (L) (st)) : k_V p l e R s m args below meth c D cy ad bs ks mr cells slots Q mi ml (pc) (L) (va :: st) := by
  obtain ⟨⟨hx, hb, hml, hown, hts⟩, hF, hr, hlk, hnm⟩ := C
  intro H locs ls hP hS hl
  have h1 : (k_enc ad va).category = 1 := by
    rcases lv_cat (k_enc ad va) with h | h
    · exact h
    · rw [k_enc_cat.mp h] at ha; cases ha
  exact lv_pop hx hb d h1 (k H locs ls hP hS hl)
theorem k_dup_x1 (C : k_Cx p s m args meth c D cy ad bs ks M) {va vb : MV} (d : decode M.2.1 pc = .ok (.dup_x1, 1)) (ha : k_isL va = false) (hb2 : k_isL vb = false) (k : k_V p l e R s m args below meth c D cy ad bs ks mr cells slots Q mi ml (pc + 1) (L) (va :: vb :: va :: st)) : k_V p l e R s m args below meth c D cy ad bs ks mr cells slots Q mi ml (pc) (L) (va :: vb :: st) := by
  obtain ⟨⟨hx, hb, hml, hown, hts⟩, hF, hr, hlk, hnm⟩ := C
  intro H locs ls hP hS hl
  have h1 : (k_enc ad va).category = 1 := by
    rcases lv_cat (k_enc ad va) with h | h
    · exact h
    · rw [k_enc_cat.mp h] at ha; cases ha
  have h2 : (k_enc ad vb).category = 1 := by
    rcases lv_cat (k_enc ad vb) with h | h
    · exact h
    · rw [k_enc_cat.mp h] at hb2; cases hb2
  exact lv_dup_x1 hx hb d h1 h2 (k H locs ls hP hS hl)
theorem k_dup2 (C : k_Cx p s m args meth c D cy ad bs ks M) {va vb : MV} (d : decode M.2.1 pc = .ok (.dup2, 1)) (ha : k_isL va = false) (hb2 : k_isL vb = false) (k : k_V p l e R s m args below meth c D cy ad bs ks mr cells slots Q mi ml (pc + 1) (L) (va :: vb :: va :: vb :: st)) : k_V p l e R s m args below meth c D cy ad bs ks mr cells slots Q mi ml (pc) (L) (va :: vb :: st) := by
  obtain ⟨⟨hx, hb, hml, hown, hts⟩, hF, hr, hlk, hnm⟩ := C
  intro H locs ls hP hS hl
  have h1 : (k_enc ad va).category = 1 := by
    rcases lv_cat (k_enc ad va) with h | h
    · exact h
    · rw [k_enc_cat.mp h] at ha; cases ha
  have h2 : (k_enc ad vb).category = 1 := by
    rcases lv_cat (k_enc ad vb) with h | h
    · exact h
    · rw [k_enc_cat.mp h] at hb2; cases hb2
  exact lv_dup2_11 hx hb d h1 h2 (k H locs ls hP hS hl)
theorem k_if_eq (C : k_Cx p s m args meth c D cy ad bs ks M) {x : Int32} {off : Int} (tgt : Nat) (d : decode M.2.1 pc = .ok (.ifCond .eq off, 3)) (ht : (pc : Int) + off = (tgt : Int)) (kt : x = 0 → k_V p l e R s m args below meth c D cy ad bs ks mr cells slots Q mi ml (tgt) (L) (st)) (kf : ¬ (x = 0) → k_V p l e R s m args below meth c D cy ad bs ks mr cells slots Q mi ml (pc + 3) (L) (st)) : k_V p l e R s m args below meth c D cy ad bs ks mr cells slots Q mi ml (pc) (L) (vI x :: st) := by
  obtain ⟨⟨hx, hb, hml, hown, hts⟩, hF, hr, hlk, hnm⟩ := C
  intro H locs ls hP hS hl
  exact lv_if_eq hx hb d ht (fun h => kt h H locs ls hP hS hl) (fun h => kf h H locs ls hP hS hl)
theorem k_if_ne (C : k_Cx p s m args meth c D cy ad bs ks M) {x : Int32} {off : Int} (tgt : Nat) (d : decode M.2.1 pc = .ok (.ifCond .ne off, 3)) (ht : (pc : Int) + off = (tgt : Int)) (kt : ¬ x = 0 → k_V p l e R s m args below meth c D cy ad bs ks mr cells slots Q mi ml (tgt) (L) (st)) (kf : x = 0 → k_V p l e R s m args below meth c D cy ad bs ks mr cells slots Q mi ml (pc + 3) (L) (st)) : k_V p l e R s m args below meth c D cy ad bs ks mr cells slots Q mi ml (pc) (L) (vI x :: st) := by
  obtain ⟨⟨hx, hb, hml, hown, hts⟩, hF, hr, hlk, hnm⟩ := C
  intro H locs ls hP hS hl
  exact lv_if_ne hx hb d ht (fun h => kt h H locs ls hP hS hl) (fun h => kf h H locs ls hP hS hl)
theorem k_if_lt (C : k_Cx p s m args meth c D cy ad bs ks M) {x : Int32} {off : Int} (tgt : Nat) (d : decode M.2.1 pc = .ok (.ifCond .lt off, 3)) (ht : (pc : Int) + off = (tgt : Int)) (kt : x < 0 → k_V p l e R s m args below meth c D cy ad bs ks mr cells slots Q mi ml (tgt) (L) (st)) (kf : ¬ (x < 0) → k_V p l e R s m args below meth c D cy ad bs ks mr cells slots Q mi ml (pc + 3) (L) (st)) : k_V p l e R s m args below meth c D cy ad bs ks mr cells slots Q mi ml (pc) (L) (vI x :: st) := by
  obtain ⟨⟨hx, hb, hml, hown, hts⟩, hF, hr, hlk, hnm⟩ := C
  intro H locs ls hP hS hl
  exact lv_if_lt hx hb d ht (fun h => kt h H locs ls hP hS hl) (fun h => kf h H locs ls hP hS hl)
theorem k_if_ge (C : k_Cx p s m args meth c D cy ad bs ks M) {x : Int32} {off : Int} (tgt : Nat) (d : decode M.2.1 pc = .ok (.ifCond .ge off, 3)) (ht : (pc : Int) + off = (tgt : Int)) (kt : 0 ≤ x → k_V p l e R s m args below meth c D cy ad bs ks mr cells slots Q mi ml (tgt) (L) (st)) (kf : ¬ (0 ≤ x) → k_V p l e R s m args below meth c D cy ad bs ks mr cells slots Q mi ml (pc + 3) (L) (st)) : k_V p l e R s m args below meth c D cy ad bs ks mr cells slots Q mi ml (pc) (L) (vI x :: st) := by
  obtain ⟨⟨hx, hb, hml, hown, hts⟩, hF, hr, hlk, hnm⟩ := C
  intro H locs ls hP hS hl
  exact lv_if_ge hx hb d ht (fun h => kt h H locs ls hP hS hl) (fun h => kf h H locs ls hP hS hl)
theorem k_if_gt (C : k_Cx p s m args meth c D cy ad bs ks M) {x : Int32} {off : Int} (tgt : Nat) (d : decode M.2.1 pc = .ok (.ifCond .gt off, 3)) (ht : (pc : Int) + off = (tgt : Int)) (kt : 0 < x → k_V p l e R s m args below meth c D cy ad bs ks mr cells slots Q mi ml (tgt) (L) (st)) (kf : ¬ (0 < x) → k_V p l e R s m args below meth c D cy ad bs ks mr cells slots Q mi ml (pc + 3) (L) (st)) : k_V p l e R s m args below meth c D cy ad bs ks mr cells slots Q mi ml (pc) (L) (vI x :: st) := by
  obtain ⟨⟨hx, hb, hml, hown, hts⟩, hF, hr, hlk, hnm⟩ := C
  intro H locs ls hP hS hl
  exact lv_if_gt hx hb d ht (fun h => kt h H locs ls hP hS hl) (fun h => kf h H locs ls hP hS hl)
theorem k_if_le (C : k_Cx p s m args meth c D cy ad bs ks M) {x : Int32} {off : Int} (tgt : Nat) (d : decode M.2.1 pc = .ok (.ifCond .le off, 3)) (ht : (pc : Int) + off = (tgt : Int)) (kt : x ≤ 0 → k_V p l e R s m args below meth c D cy ad bs ks mr cells slots Q mi ml (tgt) (L) (st)) (kf : ¬ (x ≤ 0) → k_V p l e R s m args below meth c D cy ad bs ks mr cells slots Q mi ml (pc + 3) (L) (st)) : k_V p l e R s m args below meth c D cy ad bs ks mr cells slots Q mi ml (pc) (L) (vI x :: st) := by
  obtain ⟨⟨hx, hb, hml, hown, hts⟩, hF, hr, hlk, hnm⟩ := C
  intro H locs ls hP hS hl
  exact lv_if_le hx hb d ht (fun h => kt h H locs ls hP hS hl) (fun h => kf h H locs ls hP hS hl)
theorem k_icmp_eq (C : k_Cx p s m args meth c D cy ad bs ks M) {x y : Int32} {off : Int} (tgt : Nat) (d : decode M.2.1 pc = .ok (.if_icmp .eq off, 3)) (ht : (pc : Int) + off = (tgt : Int)) (kt : x = y → k_V p l e R s m args below meth c D cy ad bs ks mr cells slots Q mi ml (tgt) (L) (st)) (kf : ¬ (x = y) → k_V p l e R s m args below meth c D cy ad bs ks mr cells slots Q mi ml (pc + 3) (L) (st)) : k_V p l e R s m args below meth c D cy ad bs ks mr cells slots Q mi ml (pc) (L) (vI y :: vI x :: st) := by
  obtain ⟨⟨hx, hb, hml, hown, hts⟩, hF, hr, hlk, hnm⟩ := C
  intro H locs ls hP hS hl
  exact lv_icmp_eq hx hb d ht (fun h => kt h H locs ls hP hS hl) (fun h => kf h H locs ls hP hS hl)
theorem k_icmp_ne (C : k_Cx p s m args meth c D cy ad bs ks M) {x y : Int32} {off : Int} (tgt : Nat) (d : decode M.2.1 pc = .ok (.if_icmp .ne off, 3)) (ht : (pc : Int) + off = (tgt : Int)) (kt : ¬ x = y → k_V p l e R s m args below meth c D cy ad bs ks mr cells slots Q mi ml (tgt) (L) (st)) (kf : x = y → k_V p l e R s m args below meth c D cy ad bs ks mr cells slots Q mi ml (pc + 3) (L) (st)) : k_V p l e R s m args below meth c D cy ad bs ks mr cells slots Q mi ml (pc) (L) (vI y :: vI x :: st) := by
  obtain ⟨⟨hx, hb, hml, hown, hts⟩, hF, hr, hlk, hnm⟩ := C
  intro H locs ls hP hS hl
  exact lv_icmp_ne hx hb d ht (fun h => kt h H locs ls hP hS hl) (fun h => kf h H locs ls hP hS hl)
theorem k_icmp_lt (C : k_Cx p s m args meth c D cy ad bs ks M) {x y : Int32} {off : Int} (tgt : Nat) (d : decode M.2.1 pc = .ok (.if_icmp .lt off, 3)) (ht : (pc : Int) + off = (tgt : Int)) (kt : x < y → k_V p l e R s m args below meth c D cy ad bs ks mr cells slots Q mi ml (tgt) (L) (st)) (kf : ¬ (x < y) → k_V p l e R s m args below meth c D cy ad bs ks mr cells slots Q mi ml (pc + 3) (L) (st)) : k_V p l e R s m args below meth c D cy ad bs ks mr cells slots Q mi ml (pc) (L) (vI y :: vI x :: st) := by
  obtain ⟨⟨hx, hb, hml, hown, hts⟩, hF, hr, hlk, hnm⟩ := C
  intro H locs ls hP hS hl
  exact lv_icmp_lt hx hb d ht (fun h => kt h H locs ls hP hS hl) (fun h => kf h H locs ls hP hS hl)
theorem k_icmp_ge (C : k_Cx p s m args meth c D cy ad bs ks M) {x y : Int32} {off : Int} (tgt : Nat) (d : decode M.2.1 pc = .ok (.if_icmp .ge off, 3)) (ht : (pc : Int) + off = (tgt : Int)) (kt : y ≤ x → k_V p l e R s m args below meth c D cy ad bs ks mr cells slots Q mi ml (tgt) (L) (st)) (kf : ¬ (y ≤ x) → k_V p l e R s m args below meth c D cy ad bs ks mr cells slots Q mi ml (pc + 3) (L) (st)) : k_V p l e R s m args below meth c D cy ad bs ks mr cells slots Q mi ml (pc) (L) (vI y :: vI x :: st) := by
  obtain ⟨⟨hx, hb, hml, hown, hts⟩, hF, hr, hlk, hnm⟩ := C
  intro H locs ls hP hS hl
  exact lv_icmp_ge hx hb d ht (fun h => kt h H locs ls hP hS hl) (fun h => kf h H locs ls hP hS hl)
theorem k_icmp_gt (C : k_Cx p s m args meth c D cy ad bs ks M) {x y : Int32} {off : Int} (tgt : Nat) (d : decode M.2.1 pc = .ok (.if_icmp .gt off, 3)) (ht : (pc : Int) + off = (tgt : Int)) (kt : y < x → k_V p l e R s m args below meth c D cy ad bs ks mr cells slots Q mi ml (tgt) (L) (st)) (kf : ¬ (y < x) → k_V p l e R s m args below meth c D cy ad bs ks mr cells slots Q mi ml (pc + 3) (L) (st)) : k_V p l e R s m args below meth c D cy ad bs ks mr cells slots Q mi ml (pc) (L) (vI y :: vI x :: st) := by
  obtain ⟨⟨hx, hb, hml, hown, hts⟩, hF, hr, hlk, hnm⟩ := C
  intro H locs ls hP hS hl
  exact lv_icmp_gt hx hb d ht (fun h => kt h H locs ls hP hS hl) (fun h => kf h H locs ls hP hS hl)
theorem k_icmp_le (C : k_Cx p s m args meth c D cy ad bs ks M) {x y : Int32} {off : Int} (tgt : Nat) (d : decode M.2.1 pc = .ok (.if_icmp .le off, 3)) (ht : (pc : Int) + off = (tgt : Int)) (kt : x ≤ y → k_V p l e R s m args below meth c D cy ad bs ks mr cells slots Q mi ml (tgt) (L) (st)) (kf : ¬ (x ≤ y) → k_V p l e R s m args below meth c D cy ad bs ks mr cells slots Q mi ml (pc + 3) (L) (st)) : k_V p l e R s m args below meth c D cy ad bs ks mr cells slots Q mi ml (pc) (L) (vI y :: vI x :: st) := by
  obtain ⟨⟨hx, hb, hml, hown, hts⟩, hF, hr, hlk, hnm⟩ := C
  intro H locs ls hP hS hl
  exact lv_icmp_le hx hb d ht (fun h => kt h H locs ls hP hS hl) (fun h => kf h H locs ls hP hS hl)
theorem k_goto (C : k_Cx p s m args meth c D cy ad bs ks M) {off : Int} (tgt : Nat) (d : decode M.2.1 pc = .ok (.goto off, 3)) (ht : (pc : Int) + off = (tgt : Int)) (k : k_V p l e R s m args below meth c D cy ad bs ks mr cells slots Q mi ml (tgt) (L) (st)) : k_V p l e R s m args below meth c D cy ad bs ks mr cells slots Q mi ml (pc) (L) (st) := by
  obtain ⟨⟨hx, hb, hml, hown, hts⟩, hF, hr, hlk, hnm⟩ := C
  intro H locs ls hP hS hl
  exact lv_goto hx hb d ht (k H locs ls hP hS hl)
theorem k_ifnullR (C : k_Cx p s m args meth c D cy ad bs ks M) {kk : Ky} {off : Int} (d : decode M.2.1 pc = .ok (.ifnull off, 3)) (k : k_V p l e R s m args below meth c D cy ad bs ks mr cells slots Q mi ml (pc + 3) (L) (st)) : k_V p l e R s m args below meth c D cy ad bs ks mr cells slots Q mi ml (pc) (L) (vR kk :: st) := by
  obtain ⟨⟨hx, hb, hml, hown, hts⟩, hF, hr, hlk, hnm⟩ := C
  intro H locs ls hP hS hl
  exact lv_ifnull hx hb d (k H locs ls hP hS hl)
theorem k_ifnullN (C : k_Cx p s m args meth c D cy ad bs ks M) {off : Int} (tgt : Nat) (d : decode M.2.1 pc = .ok (.ifnull off, 3)) (ht : (pc : Int) + off = (tgt : Int)) (k : k_V p l e R s m args below meth c D cy ad bs ks mr cells slots Q mi ml (tgt) (L) (st)) : k_V p l e R s m args below meth c D cy ad bs ks mr cells slots Q mi ml (pc) (L) (vN :: st) := by
  obtain ⟨⟨hx, hb, hml, hown, hts⟩, hF, hr, hlk, hnm⟩ := C
  intro H locs ls hP hS hl
  exact lv_ifnullN hx hb d ht (k H locs ls hP hS hl)
theorem k_ifnonnullR (C : k_Cx p s m args meth c D cy ad bs ks M) {kk : Ky} {off : Int} (tgt : Nat) (d : decode M.2.1 pc = .ok (.ifnonnull off, 3)) (ht : (pc : Int) + off = (tgt : Int)) (k : k_V p l e R s m args below meth c D cy ad bs ks mr cells slots Q mi ml (tgt) (L) (st)) : k_V p l e R s m args below meth c D cy ad bs ks mr cells slots Q mi ml (pc) (L) (vR kk :: st) := by
  obtain ⟨⟨hx, hb, hml, hown, hts⟩, hF, hr, hlk, hnm⟩ := C
  intro H locs ls hP hS hl
  exact lv_ifnonnull hx hb d ht (k H locs ls hP hS hl)
theorem k_ifnonnullN (C : k_Cx p s m args meth c D cy ad bs ks M) {off : Int} (d : decode M.2.1 pc = .ok (.ifnonnull off, 3)) (k : k_V p l e R s m args below meth c D cy ad bs ks mr cells slots Q mi ml (pc + 3) (L) (st)) : k_V p l e R s m args below meth c D cy ad bs ks mr cells slots Q mi ml (pc) (L) (vN :: st) := by
  obtain ⟨⟨hx, hb, hml, hown, hts⟩, hF, hr, hlk, hnm⟩ := C
  intro H locs ls hP hS hl
  exact lv_ifnonnullN hx hb d (k H locs ls hP hS hl)
theorem k_topi {x : Int32} (k : ∀ y : Int32, y = x → k_V p l e R s m args below meth c D cy ad bs ks mr cells slots Q mi ml (pc) (L) (vI y :: st)) : k_V p l e R s m args below meth c D cy ad bs ks mr cells slots Q mi ml (pc) (L) (vI x :: st) := k x rfl
end KR
