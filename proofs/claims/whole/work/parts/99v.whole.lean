/-! THE CLAIM OUT OF ONE WALK OF THE LAW'S BODY. Your part is whole_start (and what it stands on); all else here is the same for every law, but numbers. -/
def R_law : String := "BeggarsChooseLaw"
def lw_P (b : Addr) (xs : List Int32) (args : Array Value) (s : State) : Prop := args = #[.ref b] ∧ s.IntsAt b xs ∧ xs.length ≤ 3072 ∧ (Jvm.Cond.and given_1 narrow_1).before args s = true
def lw_Q (_ : Array Value) (s : State) (o : Outcome) (t : State) : Prop := o = .returned (some (.int 1)) ∧ Framed s o t [] 600000 7302250
def lw_Z (below : List Frame) (a : Array Value) (s : State) : State → Prop := fun t => ∃ o, t.status = .running ∧ Ended t below o ∧ lw_Q a s o t
/-- the law's own end, with 1 on the stack, nothing written that was there before, its room as the claim has it -/
theorem lw_ret {p : Program} {l : Launch} {e : Env} {s : State} {m : MethodId} {below : List Frame} {meth : Method} {c : Code} {b : Nat} (hx : p.tables.exec = Jvm.exec) (hb : c.code = code) (hr : meth.sig.returnType = ret) (hlocks : meth.locks = false) {pc : Nat} {H : Heap} {ls : Array Slot} (hdg : decode code pc = .ok (.ireturn, 1)) : W p l e room_1 s m #[Value.ref b] below meth c H [] 600000 7302250 (lw_Z below #[Value.ref b] s) (F0 m pc ls [.int 1]) := by
  intro T hT X
  obtain ⟨fs, hret, hrun, hended, hW, hframe⟩ := X.leave (v := some (.int 1)) (hlocks := hlocks) (fun h => by rw [hr] at h; cases h)
  have hmeth' : T.vm.method? m = some meth := X.method'
  refine ⟨T.setFrames fs, ?_, .returned (some (.int 1)), hrun, hended, rfl, ⟨_, rfl⟩, hW, hframe⟩
  jvm_step X.here [X.here.top, hx, hb, hdg, hmeth', hr, ret, narrow_b1]
  (try refine ⟨rfl, ?_⟩); (try refine ⟨rfl, ?_⟩)
  first | (intro acts; rw [hret _ acts rfl rfl rfl]) | rw [hret _ _ rfl rfl rfl]
  exact Steps.refl _
/-- what holds at the law's entry: the machine, the code, the tables' words (any of lw_tbl by 'hts w (by decide +kernel)'), the script of L ints xs at the cell b, what the Statement gives of the start (any of its parts by flat_of_before) -/
def lw_At (p : Program) (s : State) (m : MethodId) (meth : Method) (c : Code) (b L : Nat) (xs : Nat → Int32) : Prop :=
  p.tables.exec = Jvm.exec ∧ c.code = code ∧ meth.sig.returnType = ret ∧ c.maxLocals = 4 ∧ s.vm.findClass R_law = some m.cls ∧ (∀ w ∈ lw_tbl, w.before #[Value.ref b] s = true) ∧ va_X b L xs s s.heap ∧ b < s.heap.size ∧ meth.locks = false ∧ (Jvm.Cond.and given_1 narrow_1).before #[Value.ref b] s = true
theorem k_V_to {p : Program} {l : Launch} {e : Env} {R : Room} {s : State} {m : MethodId} {args : Array Value} {below : List Frame} {meth : Method} {c : Code} {D : va_G} {cy : Nat → ClassId} {ad : Ky → Nat} {bs : Nat} {K1 K2 : List Ky} {mr mr2 : MemR} {cells slots : Nat} {Q : State → Prop} {mi : MemI} {ml : MemL} {pc : Nat} {L st : List MV} (hs : ∀ k ∈ K2, k ∈ K1) (h8 : ∀ k ∈ K2, k.1 < 8 → ∀ j, j < k_nF k.1 → k_rf k.1 j = true → mr k j = mr2 k j) (h10 : ∀ k ∈ K2, 10 ≤ k.1 → ∀ j, j < k_ln k → mr k j = mr2 k j) (k : k_V p l e R s m args below meth c D cy ad bs K2 mr2 cells slots Q mi ml pc L st) : k_V p l e R s m args below meth c D cy ad bs K1 mr cells slots Q mi ml pc L st :=
  fun H locs ls hP hS hl => k H locs ls (k_P_to hP hs h8 h10) hS hl
set_option maxRecDepth 100000 in
set_option maxHeartbeats 4000000 in
/-- THE LAW, from its entry -/
theorem whole_start {p : Program} {e : Env} {s : State} {m : MethodId} {below : List Frame} {meth : Method} {c : Code} (l : Launch) (hflags : l.flags = flags0) {b L : Nat} {xs : Nat → Int32} (hL : L ≤ 3072) (C0 : lw_At p s m meth c b L xs) : W p l e room_1 s m #[Value.ref b] below meth c s.heap [] 0 0 (lw_Z below #[Value.ref b] s) (entryFrame m ([Value.ref b] : List Value).toArray 4) := by
  obtain ⟨hx, hb, hr, hml, hown, hts, hX, hbl, hlocks, hgv⟩ := id C0
  obtain ⟨D, cy, ad, hF, had⟩ := k_start hts hgv
  have C : k_Cx p s m #[Value.ref b] meth c D cy ad s.heap.size kS_0 (Mt_L meth.name) := ⟨⟨hx, hb, hml, hown, fun w hw => hts w (List.mem_filter.mp hw).1⟩, hF, hr, hlocks, rfl⟩
  have hl := lv_entry ([.ref b]) (n := 4) (Nat.le_of_ble_eq_true rfl)
  rw [lg_entry_eq]
  generalize (lg_sl ([.ref b]) ++ List.replicate (4 - (lg_sl ([.ref b])).length) Slot.unset).toArray = ls at hl ⊢
  have hl : lv_has ls 4 [(0, .ref b)] := hl
  have K : k_V p l e room_1 s m #[Value.ref b] below meth c D cy ad s.heap.size kS_0 qR_z 0 0 (lw_Z below #[Value.ref b] s) qM_z qL_z 0 [vR (17, 0, 0), vU, vU, vU] [] := by
    refine k_newO (pc := 0) (kk := (6, 0, 0)) C qcl0 tyX6 cl_X6 rfl (by decide +kernel) (fun _ => rfl) (fun _ => rfl) tyX6_ok df_X6 wl_L_7 wi_X6 wn_X6 (k_vo_of (by decide +kernel)) (k_vo_of (by decide +kernel)) (by decide) (by decide) dL_law_0 ?_
    intro ad1 ha1 C1
    rw [kSe_1] at C1 ⊢
    have had1 : ad1 (17, 0, 0) = b := (ha1 _ (Or.inr (by decide))).trans had
    clear C ha1 had
    refine k_dup (pc := 3) C1 dL_law_3 rfl ?_
    refine k_callN (pc := 4) C1 cI_L_9 cn_X6 rfl rfl rfl (by decide) (by decide) rfl (Nat.le_of_ble_eq_true rfl) (k_vo_of (by decide +kernel)) (k_vo_of (by decide +kernel)) dL_law_4 ?_
    intro ad2 ha2 C2
    rw [kSf_X6] at C2 ⊢
    have had2 : ad2 (17, 0, 0) = b := (ha2 _ (Or.inr (by decide))).trans had1
    clear C1 ha2 had1
    refine k_astore_1 (pc := 7) C2 dL_law_7 rfl ?_
    refine k_newO (pc := 8) (kk := (7, 0, 0)) C2 qcl_X6 tyX7 cl_X7 rfl (by decide +kernel) (fun _ => rfl) (fun _ => rfl) tyX7_ok df_X7 wl_L_10 wi_X7 wn_X7 (k_vo_of (by decide +kernel)) (k_vo_of (by decide +kernel)) (by decide) (by decide) dL_law_8 ?_
    intro ad3 ha3 C3
    rw [kSe_69] at C3 ⊢
    have had3 : ad3 (17, 0, 0) = b := (ha3 _ (Or.inr (by decide))).trans had2
    clear C2 ha3 had2
    refine k_dup (pc := 11) C3 dL_law_11 rfl ?_
    refine k_callN (pc := 12) C3 cI_L_12 cn_X7 rfl rfl rfl (by decide) (by decide) rfl (Nat.le_of_ble_eq_true rfl) (k_vo_of (by decide +kernel)) (k_vo_of (by decide +kernel)) dL_law_12 ?_
    intro ad4 ha4 C4
    rw [kSf_X7] at C4 ⊢
    have had4 : ad4 (17, 0, 0) = b := (ha4 _ (Or.inr (by decide))).trans had3
    clear C3 ha4 had3
    refine k_astore_2 (pc := 15) C4 dL_law_15 rfl ?_
    refine k_iconst (pc := 16) (v := nI 0) C4 dL_law_16 (by decide) ?_
    refine k_istore_3 (pc := 17) C4 dL_law_17 rfl ?_
    refine k_V_to kf_sub kf_8 kf_10 ?_
    have C5 := k_Cx_ag C4 (k_ag_rf (ks := kS_106)) (k_ok_to C4.2.1.2.2.2.1 kf_sub kf_nd)
    refine lp_all C5 ⟨hX, hbl, Nat.not_le.mpr hbl, had4, hL⟩ (by decide) (fun mi ml i => ?_) 3073 0 _ _ (by omega) (Nat.zero_le _) kf_J
    refine k_iconst (pc := 1293) (v := 1) C5 dL_law_1293 (by decide) ?_
    intro H locs ls hP hS hl
    refine va_forget hS.2.2 ?_
    exact W.widen (k := 600000) (n := 7302250) (by decide) (by decide) (lw_ret hx hb hr hlocks dL_law_1294)
  refine K s.heap [] ls (fun k q h => by simp [k_ws, kS_0] at h) va_S.rf ⟨hl.1, hl.2.1, fun i v hi hu => ?_⟩
  match i, hi with
  | 0, hi =>
    cases hi
    show ls[0]? = some (.val (va_rf (some (ad (17, 0, 0)))))
    rw [had]
    exact hl.2.2 (0, .ref b) List.mem_cons_self
  | 1, hi => cases hi; cases hu
  | 2, hi => cases hi; cases hu
  | 3, hi => cases hi; cases hu
  | i + 4, hi => simp at hi
set_option maxHeartbeats 4000000 in
theorem lw_walk (l : Launch) (hflags : l.flags = flags0) (b : Addr) (xs : List Int32) : MetFree l x (headSpec (Jvm.Cond.code x code maxLocals ret :: tables_1) room_1) (lw_P b xs) (fun _ _ _ _ _ => True) lw_Q := by
  refine MetFree.of_bodyS (code := code) (maxLocals := maxLocals) (ret := ret) (by decide) ?_ ?_
  · intro args s m h hn
    obtain ⟨meth, c, h1, h2, h3, h4, h5, h6, -, -⟩ := Cond.code_spec hn (atoms_spec (ws := Jvm.Cond.code x code maxLocals ret :: tables_1) h _ List.mem_cons_self)
    exact ⟨meth, c, h1, h2, h3, h4, h5, h6⟩
  · intro p e s m args below meth c s₁ B hml0 hP _
    obtain ⟨rfl, hx, hbd, hgv⟩ := hP
    obtain ⟨scr, harrAt, hlist, hof, hsmall⟩ := hx
    obtain ⟨hcb, hkn, -, -⟩ := State.arrayAt?_spec harrAt
    have hown : s.vm.findClass R_law = some m.cls := findClass_of_methodNamed B.named
    have hts0 : ∀ c ∈ (Jvm.Cond.code x code maxLocals ret :: tables_1), c.before #[Value.ref b] s = true := atoms_spec (ws := Jvm.Cond.code x code maxLocals ret :: tables_1) B.pre
    have hts : ∀ w ∈ lw_tbl, w.before #[Value.ref b] s = true := k2_hts_sels lw_privs (fun w hw => hts0 w (List.mem_cons_of_mem _ hw)) lw_privs_ok
    have hml : c.maxLocals = 4 := B.maxLocals_eq (hts0 _ List.mem_cons_self)
    have X₀ : Stand p l e room_1 s m #[Value.ref b] below meth c s₁ [] 0 0 := Stand.of_body B
    have hh0 : s₁.heap = s.heap := by rw [B.state]; rfl
    have hsz : scr.slots.size = xs.length := by rw [← Array.length_toList, hlist, List.length_map]
    have hval : ∀ j : Nat, j < xs.length → scr.slots[j]? = some (.int (xs.getD j 0)) := fun j hj => by
      rw [← Array.getElem?_toList, hlist]
      simp [hj]
    have hbl : b < s.heap.size := (Array.getElem?_eq_some_iff.mp hcb).1
    have hX : va_X b xs.length (fun j => xs.getD j 0) s s.heap := ⟨scr, hcb, hof, hkn, hsz, hval⟩
    have K : W p l e room_1 s m #[Value.ref b] below meth c s₁.heap [] 0 0 (lw_Z below #[Value.ref b] s) (entryFrame m ([Value.ref b] : List Value).toArray 4) := by
      rw [hh0]
      exact whole_start l hflags hbd ⟨B.exec, B.bytes, B.returns, hml, hown, hts, hX, hbl, B.notSynchronized, hgv⟩
    obtain ⟨t, a1, o, b1, b2, b3⟩ := K s₁ rfl X₀
    exact ⟨t, o, a1, b1, b2, b3⟩
theorem lw_pre_spec {args : Array Value} {s : State} (h : (Jvm.Cond.and given_1 narrow_1).before args s = true) (hr : rest_1_c.before args s = true) : ∃ (b : Addr) (xs : List Int32), lw_P b xs args s := by
  have hs := flat_of_before _ h
  have hq := flat_of_before _ hr
  have hc : (Cond.count 1).before args s = true := hs _ (by decide +kernel)
  have harr : (Cond.arrayOf (.arg 0) .int).before args s = true := hs _ (by decide +kernel)
  have hle : (Cond.le (.length (.arg 0)) (.int 3072)).before args s = true := hs _ (by decide +kernel)
  have hlen : (Cond.isInt (.length (.arg 0))).before args s = true := hq _ (by decide +kernel)
  have hall : (Cond.all (.arg 0) (.isInt (.elem (.arg 0) (.index 0)))).before args s = true := hq _ (by decide +kernel)
  obtain ⟨b, xs, hb, hx⟩ := State.ints_of_pre rfl harr hlen hall
  have hsm : xs.length < 2 ^ 31 := hx.choose_spec.2.2.2
  have hev : (Term.length (.arg 0)).eval args s none [] s = some (.int xs.length.toInt32) := hx.length_eval hb
  have hv := Cond.le_ints hev (show (Term.int 3072).eval args s none [] s = some (.int 3072) from rfl)
  have hd : xs.length.toInt32 ≤ 3072 := by
    simpa [Cond.before, Cond.holds, hv] using hle
  have hN : xs.length ≤ 3072 := (Int32.ofNat_le_ofNat hsm (by decide)).mp (show Int32.ofNat xs.length ≤ Int32.ofNat 3072 from hd)
  exact ⟨b, xs, Cond.one_arg hc (show args[0]? = some (.ref b) from hb), hx, hN, h⟩
theorem lw_comes (l : Launch) (hflags : l.flags = flags0) : Comes l x (Jvm.Cond.code x code maxLocals ret :: tables_1) room_1 (fun tb e args s => Calls_1 tb e args s ∧ rest_1 tb e args s ∧ Pre_1 tb e args s)
    (fun _ _ args s o t => lw_Q args s o t) := by
  intro p e ha hc hk s m args below hf hfit hheap happ hpre
  obtain ⟨b, xs, hP⟩ := lw_pre_spec hpre.2.2 hpre.2.1
  obtain ⟨k, o, h1, h2, h3, hQ⟩ := lw_walk l hflags b xs p e ha hc hk s m args below hf ((Spec.applies_iff_loose hf).mp happ).1 hP trivial
  exact ⟨k, o, h1, h2, h3, hQ⟩
theorem lw_frame {s t : State} {o : Outcome} {args : Array Value} (h : Framed s o t [] 600000 7302250) :
    Framed s o t (fieldLocs frame_1_writes args s ++ arrayLocs frame_1_arrays args s ++ staticLocs frame_1_statics s) 600000 7302250 := h
theorem lw_limb (L : Cond) (hL : ∀ (args : Array Value) (s t : State), L.after args s (.returned (some (.int 1))) t = true) :
    ArmFor flags0 classFile x code maxLocals ret World_1 tables_1 room_1 Calls_1 rest_1 Pre_1
      (fun tb e a s o t => postC L tb e a s o t ∧ Framed s o t (fieldLocs frame_1_writes a s ++ arrayLocs frame_1_arrays a s ++ staticLocs frame_1_statics s) 600000 7302250) := by
  intro l hflags _ _ p e ha hc hk s m args below hf hfit hheap happ hpre
  obtain ⟨k, o, h1, h2, h3, rfl, hF⟩ := lw_comes l hflags p e ha hc hk s m args below hf hfit hheap happ hpre
  exact ⟨k, _, h1, h2, h3, hL args s _, lw_frame hF⟩
theorem i_vc : Claimed_1_1 ∧ Claimed_1_2 := ⟨lw_limb limb_1_1 (fun args s t => by simp [limb_1_1, Cond.after, Cond.holds, Cond.value]), lw_limb limb_1_2 (fun args s t => Cond.after_iff.mpr (by
  first | (rw [show limb_1_2 = Cond.eq .result (.int 1) from rfl, Cond.eq_ints (x := 1) (y := 1) rfl rfl]; simp; done) | (simp [limb_1_2, Cond.value, Term.eval]; done)))⟩

