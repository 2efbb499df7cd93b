/-! the law's own rows: its script -/
section LR
variable {p : Program} {l : Launch} {e : Env} {R : Room} {s : State} {m : MethodId} {args : Array Value} {below : List Frame} {meth : Method} {c : Code} {D : va_G} {cy : Nat → ClassId} {ad : Ky → Nat} {bs : Nat} {ks : List Ky} {mr : MemR} {cells slots : Nat} {Q : State → Prop} {mi : MemI} {ml : MemL} {pc : Nat} {L st : List MV} {M : k_M} {b n i : Nat} {xs : Nat → Int32}
def k_LX (s : State) (ad : Ky → Nat) (bs b n : Nat) (xs : Nat → Int32) : Prop := va_X b n xs s s.heap ∧ b < s.heap.size ∧ ¬ k_AB bs b ∧ ad (17, 0, 0) = b ∧ n ≤ 3072
def Mt_L (nm : String) : k_M := (⟨RL, nm, "([I)Z"⟩, cL_law, 4, ret)
def k_Lc (i : Nat) : List MV := [vR (17, 0, 0), vR (6, 0, 0), vR (7, 0, 0), vI (nI i)]
theorem k_sld (C : k_Cx p s m args meth c D cy ad bs ks M) (X : k_LX s ad bs b n xs) {x : Int32} (hin : vp_in x n) (d : decode M.2.1 pc = .ok (.iaload, 1)) (k : k_V p l e R s m args below meth c D cy ad bs ks mr cells slots Q mi ml (pc + 1) L (vI (xs x.toNatClampNeg) :: st)) : k_V p l e R s m args below meth c D cy ad bs ks mr cells slots Q mi ml pc L (vI x :: vR (17, 0, 0) :: st) := by
  obtain ⟨⟨hx, hb, hml, hown, hts⟩, hF, hr, hlk, hnm⟩ := C
  obtain ⟨x1, x2, x3, x4, -⟩ := X
  intro H locs ls hP hS hl
  show W p l e R s m args below meth c H locs cells slots Q (F0 m pc ls (.int x :: .ref (ad (17, 0, 0)) :: st.map (k_enc ad)))
  rw [x4]
  exact va_sld hx hb x1 x2 x3 hS hin d (k H locs ls hP hS hl)
theorem k_slen (C : k_Cx p s m args meth c D cy ad bs ks M) (X : k_LX s ad bs b n xs) (d : decode M.2.1 pc = .ok (.arraylength, 1)) (k : k_V p l e R s m args below meth c D cy ad bs ks mr cells slots Q mi ml (pc + 1) L (vI (nI n) :: st)) : k_V p l e R s m args below meth c D cy ad bs ks mr cells slots Q mi ml pc L (vR (17, 0, 0) :: st) := by
  obtain ⟨⟨hx, hb, hml, hown, hts⟩, hF, hr, hlk, hnm⟩ := C
  obtain ⟨x1, x2, x3, x4, -⟩ := X
  intro H locs ls hP hS hl
  show W p l e R s m args below meth c H locs cells slots Q (F0 m pc ls (.ref (ad (17, 0, 0)) :: st.map (k_enc ad)))
  rw [x4]
  exact va_slen hx hb x1 x2 x3 hS d (k H locs ls hP hS hl)
theorem k_ldc2 (C : k_Cx p s m args meth c D cy ad bs ks M) {ix : Nat} {v : Int64} (hw : Cond.constantLong M.1.cls ix v ∈ k_WS) (d : decode M.2.1 pc = .ok (.ldc2_w ix, 3)) (k : k_V p l e R s m args below meth c D cy ad bs ks mr cells slots Q mi ml (pc + 3) L (vL v :: st)) : k_V p l e R s m args below meth c D cy ad bs ks mr cells slots Q mi ml pc L st := by
  obtain ⟨⟨hx, hb, hml, hown, hts⟩, hF, hr, hlk, hnm⟩ := C
  intro H locs ls hP hS hl
  exact lv_ldc2 hx hb hown (hts _ hw) d (k H locs ls hP hS hl)
theorem lc_ldc : Cond.constantLong RL 18 4294967295 ∈ k_WS := k_inWS 1374 (by decide +kernel) (by decide)
theorem k_arg (C : k_Cx p s m args meth c D cy ad bs ks M) (X : k_LX s ad bs b n xs) {j : Nat} {kc : Int} (hj : i + j < n) (hkc : Int32.ofInt kc = nI j) (d0 : decode M.2.1 pc = .ok (.aload_n 0, 1)) (d1 : decode M.2.1 (pc + 1) = .ok (.iload_n 3, 1)) (d2 : decode M.2.1 (pc + 2) = .ok (.iconst kc, 1)) (d3 : decode M.2.1 (pc + 3) = .ok (.iadd, 1)) (d4 : decode M.2.1 (pc + 4) = .ok (.iaload, 1)) (k : k_V p l e R s m args below meth c D cy ad bs ks mr cells slots Q mi ml (pc + 5) (k_Lc i) (vI (xs (i + j)) :: st)) : k_V p l e R s m args below meth c D cy ad bs ks mr cells slots Q mi ml pc (k_Lc i) st := by
  have hn := X.2.2.2.2
  refine k_aload_n C d0 rfl ?_
  refine k_iload_n C d1 rfl ?_
  refine k_iconst C d2 hkc ?_
  refine k_iadd C d3 ?_
  rw [nI_add]
  refine k_sld C X (vp_in_nI hj (by omega)) d4 ?_
  rw [nI_clamp (by omega)]
  exact k
theorem k_bzR (C : k_Cx p s m args meth c D cy ad bs ks M) {x : Int32} (d0 : decode M.2.1 pc = .ok (.ifCond .eq 7, 3)) (d1 : decode M.2.1 (pc + 3) = .ok (.iconst 1, 1)) (d2 : decode M.2.1 (pc + 4) = .ok (.goto 4, 3)) (d3 : decode M.2.1 (pc + 7) = .ok (.iconst 0, 1)) (k : k_V p l e R s m args below meth c D cy ad bs ks mr cells slots Q mi ml (pc + 8) L (vI (if x = 0 then 0 else 1) :: st)) : k_V p l e R s m args below meth c D cy ad bs ks mr cells slots Q mi ml pc L (vI x :: st) := by
  refine k_if_eq C (pc + 7) d0 (by omega) (fun z => ?_) (fun z => ?_)
  · rw [if_pos z] at k
    exact k_iconst C d3 rfl k
  · rw [if_neg z] at k
    refine k_iconst (v := 1) C d1 (by decide) ?_
    exact k_goto C (pc + 8) d2 (by omega) k
theorem k_callL (C : k_Cx p s m args meth c D cy ad bs ks M) {idx ci n nf' : Nat} {M' : k_M} {kk : Ky} {as rest : List MV} {v : MV} {mi1 : MemI} {ml1 : MemL} (w : k_CV M.1.cls idx ci M' n) (hC : k_Ct ks mr M' nf' (vR kk :: as) mi ml (k_rt (some v) mi1 ml1)) (hk : kk ∈ ks) (hc : kk.1 = ci) (hn : as.length = n) (hL : L.length = M.2.2.1) (hR : nf' + 1 ≤ R.frames ∧ 8 + (M'.2.2.1 + 11) + 40 * nf' ≤ R.locals) (hf : cells ≤ R.cells ∧ slots ≤ R.slots) (hst : st = as.reverse ++ vR kk :: rest) (hrest : rest.length ≤ 4) (d : decode M.2.1 pc = .ok (.invokevirtual idx, 3)) (k : k_V p l e R s m args below meth c D cy ad bs ks mr cells slots Q mi1 ml1 (pc + 3) L (v :: rest)) : k_V p l e R s m args below meth c D cy ad bs ks mr cells slots Q mi ml pc L st :=
  k_callVG C w hC hk hc hn hL hR hf hst hrest d (fun r m' l' hr => by
    obtain ⟨h1, h2, h3⟩ := hr
    subst h1 h2 h3
    exact k)
theorem lgc (x : Int64) : lg_cmp x x = 0 := by unfold lg_cmp; simp
theorem ct_X6_wintersA {mi : MemI} {ml : MemL} {v : Int32} (o : f_X6_isOutside v 1 60 = 0) : k_Ct k_KS k_R0 Mt_X6_winters 5 [vR (6, 0, 0), vI v] mi ml (k_rt (some (vI (f_X6_winters mi v).1)) (f_X6_winters mi v).2 ml) := by
  have hv : ¬ v < 0 ∧ v ≤ 60 := by
    unfold f_X6_isOutside at o
    by_cases a : v < 1
    · rw [if_pos a] at o; exact absurd o (by decide)
    · rw [if_neg a] at o
      by_cases b : v ≤ 60
      · exact ⟨fun z => a (Int32.lt_trans z (by decide)), b⟩
      · rw [if_neg b] at o; exact absurd o (by decide)
  obtain ⟨N, hN, rfl⟩ := bt_of hv.1 hv.2 (n := 60) rfl (by decide)
  have e : f_X6_winters mi (nI N) = f_X6_wintersI mi N := by
    unfold f_X6_winters
    rw [if_pos o, nI_clamp (by omega)]
  rw [e]
  exact ct_X6_winters_in hN o
end LR
