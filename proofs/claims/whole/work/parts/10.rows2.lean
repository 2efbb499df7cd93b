/-! further rows: a test that is known, an index that is known, a local that is forgotten -/
section KX
variable {p : Program} {l : Launch} {e : Env} {R : Room} {s : State} {m : MethodId} {args : Array Value} {below : List Frame} {meth : Method} {c : Code} {D : va_G} {cy : Nat → ClassId} {ad : Ky → Nat} {bs : Nat} {ks : List Ky} {mr : MemR} {cells slots : Nat} {Q : State → Prop} {mi : MemI} {ml : MemL} {pc : Nat} {L st : List MV} {M : k_M}
theorem k_if_eqT (C : k_Cx p s m args meth c D cy ad bs ks M) {x : Int32} {off : Int} (tgt : Nat) (d : decode M.2.1 pc = .ok (.ifCond .eq off, 3)) (ht : (pc : Int) + off = (tgt : Int)) (h : x = 0) (k : k_V p l e R s m args below meth c D cy ad bs ks mr cells slots Q mi ml (tgt) (L) (st)) : k_V p l e R s m args below meth c D cy ad bs ks mr cells slots Q mi ml (pc) (L) (vI x :: st) := k_if_eq C tgt d ht (fun _ => k) (fun q => absurd h q)
theorem k_if_eqF (C : k_Cx p s m args meth c D cy ad bs ks M) {x : Int32} {off : Int} (tgt : Nat) (d : decode M.2.1 pc = .ok (.ifCond .eq off, 3)) (ht : (pc : Int) + off = (tgt : Int)) (h : ¬ (x = 0)) (k : k_V p l e R s m args below meth c D cy ad bs ks mr cells slots Q mi ml (pc + 3) (L) (st)) : k_V p l e R s m args below meth c D cy ad bs ks mr cells slots Q mi ml (pc) (L) (vI x :: st) := k_if_eq C tgt d ht (fun q => absurd q h) (fun _ => k)
theorem k_if_neT (C : k_Cx p s m args meth c D cy ad bs ks M) {x : Int32} {off : Int} (tgt : Nat) (d : decode M.2.1 pc = .ok (.ifCond .ne off, 3)) (ht : (pc : Int) + off = (tgt : Int)) (h : ¬ x = 0) (k : k_V p l e R s m args below meth c D cy ad bs ks mr cells slots Q mi ml (tgt) (L) (st)) : k_V p l e R s m args below meth c D cy ad bs ks mr cells slots Q mi ml (pc) (L) (vI x :: st) := k_if_ne C tgt d ht (fun _ => k) (fun q => absurd q h)
theorem k_if_neF (C : k_Cx p s m args meth c D cy ad bs ks M) {x : Int32} {off : Int} (tgt : Nat) (d : decode M.2.1 pc = .ok (.ifCond .ne off, 3)) (ht : (pc : Int) + off = (tgt : Int)) (h : x = 0) (k : k_V p l e R s m args below meth c D cy ad bs ks mr cells slots Q mi ml (pc + 3) (L) (st)) : k_V p l e R s m args below meth c D cy ad bs ks mr cells slots Q mi ml (pc) (L) (vI x :: st) := k_if_ne C tgt d ht (fun q => absurd h q) (fun _ => k)
theorem k_if_ltT (C : k_Cx p s m args meth c D cy ad bs ks M) {x : Int32} {off : Int} (tgt : Nat) (d : decode M.2.1 pc = .ok (.ifCond .lt off, 3)) (ht : (pc : Int) + off = (tgt : Int)) (h : x < 0) (k : k_V p l e R s m args below meth c D cy ad bs ks mr cells slots Q mi ml (tgt) (L) (st)) : k_V p l e R s m args below meth c D cy ad bs ks mr cells slots Q mi ml (pc) (L) (vI x :: st) := k_if_lt C tgt d ht (fun _ => k) (fun q => absurd h q)
theorem k_if_ltF (C : k_Cx p s m args meth c D cy ad bs ks M) {x : Int32} {off : Int} (tgt : Nat) (d : decode M.2.1 pc = .ok (.ifCond .lt off, 3)) (ht : (pc : Int) + off = (tgt : Int)) (h : ¬ (x < 0)) (k : k_V p l e R s m args below meth c D cy ad bs ks mr cells slots Q mi ml (pc + 3) (L) (st)) : k_V p l e R s m args below meth c D cy ad bs ks mr cells slots Q mi ml (pc) (L) (vI x :: st) := k_if_lt C tgt d ht (fun q => absurd q h) (fun _ => k)
theorem k_if_geT (C : k_Cx p s m args meth c D cy ad bs ks M) {x : Int32} {off : Int} (tgt : Nat) (d : decode M.2.1 pc = .ok (.ifCond .ge off, 3)) (ht : (pc : Int) + off = (tgt : Int)) (h : 0 ≤ x) (k : k_V p l e R s m args below meth c D cy ad bs ks mr cells slots Q mi ml (tgt) (L) (st)) : k_V p l e R s m args below meth c D cy ad bs ks mr cells slots Q mi ml (pc) (L) (vI x :: st) := k_if_ge C tgt d ht (fun _ => k) (fun q => absurd h q)
theorem k_if_geF (C : k_Cx p s m args meth c D cy ad bs ks M) {x : Int32} {off : Int} (tgt : Nat) (d : decode M.2.1 pc = .ok (.ifCond .ge off, 3)) (ht : (pc : Int) + off = (tgt : Int)) (h : ¬ (0 ≤ x)) (k : k_V p l e R s m args below meth c D cy ad bs ks mr cells slots Q mi ml (pc + 3) (L) (st)) : k_V p l e R s m args below meth c D cy ad bs ks mr cells slots Q mi ml (pc) (L) (vI x :: st) := k_if_ge C tgt d ht (fun q => absurd q h) (fun _ => k)
theorem k_if_gtT (C : k_Cx p s m args meth c D cy ad bs ks M) {x : Int32} {off : Int} (tgt : Nat) (d : decode M.2.1 pc = .ok (.ifCond .gt off, 3)) (ht : (pc : Int) + off = (tgt : Int)) (h : 0 < x) (k : k_V p l e R s m args below meth c D cy ad bs ks mr cells slots Q mi ml (tgt) (L) (st)) : k_V p l e R s m args below meth c D cy ad bs ks mr cells slots Q mi ml (pc) (L) (vI x :: st) := k_if_gt C tgt d ht (fun _ => k) (fun q => absurd h q)
theorem k_if_gtF (C : k_Cx p s m args meth c D cy ad bs ks M) {x : Int32} {off : Int} (tgt : Nat) (d : decode M.2.1 pc = .ok (.ifCond .gt off, 3)) (ht : (pc : Int) + off = (tgt : Int)) (h : ¬ (0 < x)) (k : k_V p l e R s m args below meth c D cy ad bs ks mr cells slots Q mi ml (pc + 3) (L) (st)) : k_V p l e R s m args below meth c D cy ad bs ks mr cells slots Q mi ml (pc) (L) (vI x :: st) := k_if_gt C tgt d ht (fun q => absurd q h) (fun _ => k)
theorem k_if_leT (C : k_Cx p s m args meth c D cy ad bs ks M) {x : Int32} {off : Int} (tgt : Nat) (d : decode M.2.1 pc = .ok (.ifCond .le off, 3)) (ht : (pc : Int) + off = (tgt : Int)) (h : x ≤ 0) (k : k_V p l e R s m args below meth c D cy ad bs ks mr cells slots Q mi ml (tgt) (L) (st)) : k_V p l e R s m args below meth c D cy ad bs ks mr cells slots Q mi ml (pc) (L) (vI x :: st) := k_if_le C tgt d ht (fun _ => k) (fun q => absurd h q)
theorem k_if_leF (C : k_Cx p s m args meth c D cy ad bs ks M) {x : Int32} {off : Int} (tgt : Nat) (d : decode M.2.1 pc = .ok (.ifCond .le off, 3)) (ht : (pc : Int) + off = (tgt : Int)) (h : ¬ (x ≤ 0)) (k : k_V p l e R s m args below meth c D cy ad bs ks mr cells slots Q mi ml (pc + 3) (L) (st)) : k_V p l e R s m args below meth c D cy ad bs ks mr cells slots Q mi ml (pc) (L) (vI x :: st) := k_if_le C tgt d ht (fun q => absurd q h) (fun _ => k)
theorem k_icmp_eqT (C : k_Cx p s m args meth c D cy ad bs ks M) {x y : Int32} {off : Int} (tgt : Nat) (d : decode M.2.1 pc = .ok (.if_icmp .eq off, 3)) (ht : (pc : Int) + off = (tgt : Int)) (h : x = y) (k : k_V p l e R s m args below meth c D cy ad bs ks mr cells slots Q mi ml (tgt) (L) (st)) : k_V p l e R s m args below meth c D cy ad bs ks mr cells slots Q mi ml (pc) (L) (vI y :: vI x :: st) := k_icmp_eq C tgt d ht (fun _ => k) (fun q => absurd h q)
theorem k_icmp_eqF (C : k_Cx p s m args meth c D cy ad bs ks M) {x y : Int32} {off : Int} (tgt : Nat) (d : decode M.2.1 pc = .ok (.if_icmp .eq off, 3)) (ht : (pc : Int) + off = (tgt : Int)) (h : ¬ (x = y)) (k : k_V p l e R s m args below meth c D cy ad bs ks mr cells slots Q mi ml (pc + 3) (L) (st)) : k_V p l e R s m args below meth c D cy ad bs ks mr cells slots Q mi ml (pc) (L) (vI y :: vI x :: st) := k_icmp_eq C tgt d ht (fun q => absurd q h) (fun _ => k)
theorem k_icmp_neT (C : k_Cx p s m args meth c D cy ad bs ks M) {x y : Int32} {off : Int} (tgt : Nat) (d : decode M.2.1 pc = .ok (.if_icmp .ne off, 3)) (ht : (pc : Int) + off = (tgt : Int)) (h : ¬ x = y) (k : k_V p l e R s m args below meth c D cy ad bs ks mr cells slots Q mi ml (tgt) (L) (st)) : k_V p l e R s m args below meth c D cy ad bs ks mr cells slots Q mi ml (pc) (L) (vI y :: vI x :: st) := k_icmp_ne C tgt d ht (fun _ => k) (fun q => absurd q h)
theorem k_icmp_neF (C : k_Cx p s m args meth c D cy ad bs ks M) {x y : Int32} {off : Int} (tgt : Nat) (d : decode M.2.1 pc = .ok (.if_icmp .ne off, 3)) (ht : (pc : Int) + off = (tgt : Int)) (h : x = y) (k : k_V p l e R s m args below meth c D cy ad bs ks mr cells slots Q mi ml (pc + 3) (L) (st)) : k_V p l e R s m args below meth c D cy ad bs ks mr cells slots Q mi ml (pc) (L) (vI y :: vI x :: st) := k_icmp_ne C tgt d ht (fun q => absurd h q) (fun _ => k)
theorem k_icmp_ltT (C : k_Cx p s m args meth c D cy ad bs ks M) {x y : Int32} {off : Int} (tgt : Nat) (d : decode M.2.1 pc = .ok (.if_icmp .lt off, 3)) (ht : (pc : Int) + off = (tgt : Int)) (h : x < y) (k : k_V p l e R s m args below meth c D cy ad bs ks mr cells slots Q mi ml (tgt) (L) (st)) : k_V p l e R s m args below meth c D cy ad bs ks mr cells slots Q mi ml (pc) (L) (vI y :: vI x :: st) := k_icmp_lt C tgt d ht (fun _ => k) (fun q => absurd h q)
theorem k_icmp_ltF (C : k_Cx p s m args meth c D cy ad bs ks M) {x y : Int32} {off : Int} (tgt : Nat) (d : decode M.2.1 pc = .ok (.if_icmp .lt off, 3)) (ht : (pc : Int) + off = (tgt : Int)) (h : ¬ (x < y)) (k : k_V p l e R s m args below meth c D cy ad bs ks mr cells slots Q mi ml (pc + 3) (L) (st)) : k_V p l e R s m args below meth c D cy ad bs ks mr cells slots Q mi ml (pc) (L) (vI y :: vI x :: st) := k_icmp_lt C tgt d ht (fun q => absurd q h) (fun _ => k)
theorem k_icmp_geT (C : k_Cx p s m args meth c D cy ad bs ks M) {x y : Int32} {off : Int} (tgt : Nat) (d : decode M.2.1 pc = .ok (.if_icmp .ge off, 3)) (ht : (pc : Int) + off = (tgt : Int)) (h : y ≤ x) (k : k_V p l e R s m args below meth c D cy ad bs ks mr cells slots Q mi ml (tgt) (L) (st)) : k_V p l e R s m args below meth c D cy ad bs ks mr cells slots Q mi ml (pc) (L) (vI y :: vI x :: st) := k_icmp_ge C tgt d ht (fun _ => k) (fun q => absurd h q)
theorem k_icmp_geF (C : k_Cx p s m args meth c D cy ad bs ks M) {x y : Int32} {off : Int} (tgt : Nat) (d : decode M.2.1 pc = .ok (.if_icmp .ge off, 3)) (ht : (pc : Int) + off = (tgt : Int)) (h : ¬ (y ≤ x)) (k : k_V p l e R s m args below meth c D cy ad bs ks mr cells slots Q mi ml (pc + 3) (L) (st)) : k_V p l e R s m args below meth c D cy ad bs ks mr cells slots Q mi ml (pc) (L) (vI y :: vI x :: st) := k_icmp_ge C tgt d ht (fun q => absurd q h) (fun _ => k)
theorem k_icmp_gtT (C : k_Cx p s m args meth c D cy ad bs ks M) {x y : Int32} {off : Int} (tgt : Nat) (d : decode M.2.1 pc = .ok (.if_icmp .gt off, 3)) (ht : (pc : Int) + off = (tgt : Int)) (h : y < x) (k : k_V p l e R s m args below meth c D cy ad bs ks mr cells slots Q mi ml (tgt) (L) (st)) : k_V p l e R s m args below meth c D cy ad bs ks mr cells slots Q mi ml (pc) (L) (vI y :: vI x :: st) := k_icmp_gt C tgt d ht (fun _ => k) (fun q => absurd h q)
theorem k_icmp_gtF (C : k_Cx p s m args meth c D cy ad bs ks M) {x y : Int32} {off : Int} (tgt : Nat) (d : decode M.2.1 pc = .ok (.if_icmp .gt off, 3)) (ht : (pc : Int) + off = (tgt : Int)) (h : ¬ (y < x)) (k : k_V p l e R s m args below meth c D cy ad bs ks mr cells slots Q mi ml (pc + 3) (L) (st)) : k_V p l e R s m args below meth c D cy ad bs ks mr cells slots Q mi ml (pc) (L) (vI y :: vI x :: st) := k_icmp_gt C tgt d ht (fun q => absurd q h) (fun _ => k)
theorem k_icmp_leT (C : k_Cx p s m args meth c D cy ad bs ks M) {x y : Int32} {off : Int} (tgt : Nat) (d : decode M.2.1 pc = .ok (.if_icmp .le off, 3)) (ht : (pc : Int) + off = (tgt : Int)) (h : x ≤ y) (k : k_V p l e R s m args below meth c D cy ad bs ks mr cells slots Q mi ml (tgt) (L) (st)) : k_V p l e R s m args below meth c D cy ad bs ks mr cells slots Q mi ml (pc) (L) (vI y :: vI x :: st) := k_icmp_le C tgt d ht (fun _ => k) (fun q => absurd h q)
theorem k_icmp_leF (C : k_Cx p s m args meth c D cy ad bs ks M) {x y : Int32} {off : Int} (tgt : Nat) (d : decode M.2.1 pc = .ok (.if_icmp .le off, 3)) (ht : (pc : Int) + off = (tgt : Int)) (h : ¬ (x ≤ y)) (k : k_V p l e R s m args below meth c D cy ad bs ks mr cells slots Q mi ml (pc + 3) (L) (st)) : k_V p l e R s m args below meth c D cy ad bs ks mr cells slots Q mi ml (pc) (L) (vI y :: vI x :: st) := k_icmp_le C tgt d ht (fun q => absurd q h) (fun _ => k)
theorem k_ialdX (C : k_Cx p s m args meth c D cy ad bs ks M) {kk : Ky} {i : Int32} {j : Nat} (hj : i.toNatClampNeg = j) (hk : kk ∈ ks) (hc : kk.1 = 8) (hin : vp_in i (k_ln kk)) (d : decode M.2.1 pc = .ok (.iaload, 1)) (k : k_V p l e R s m args below meth c D cy ad bs ks mr cells slots Q mi ml (pc + 1) (L) (vI (mi kk j) :: st)) : k_V p l e R s m args below meth c D cy ad bs ks mr cells slots Q mi ml (pc) (L) (vI i :: vR kk :: st) := by
  subst hj
  exact k_iald C hk hc hin d k
theorem k_laldX (C : k_Cx p s m args meth c D cy ad bs ks M) {kk : Ky} {i : Int32} {j : Nat} (hj : i.toNatClampNeg = j) (hk : kk ∈ ks) (hc : kk.1 = 9) (hin : vp_in i (k_ln kk)) (d : decode M.2.1 pc = .ok (.laload, 1)) (k : k_V p l e R s m args below meth c D cy ad bs ks mr cells slots Q mi ml (pc + 1) (L) (vL (ml kk j) :: st)) : k_V p l e R s m args below meth c D cy ad bs ks mr cells slots Q mi ml (pc) (L) (vI i :: vR kk :: st) := by
  subst hj
  exact k_lald C hk hc hin d k
theorem k_iastX (C : k_Cx p s m args meth c D cy ad bs ks M) {kk : Ky} {i x : Int32} {j : Nat} (hj : i.toNatClampNeg = j) (hk : kk ∈ ks) (hc : kk.1 = 8) (hin : vp_in i (k_ln kk)) (d : decode M.2.1 pc = .ok (.iastore, 1)) (k : k_V p l e R s m args below meth c D cy ad bs ks mr cells slots Q (k_ui mi kk j x) ml (pc + 1) (L) (st)) : k_V p l e R s m args below meth c D cy ad bs ks mr cells slots Q mi ml (pc) (L) (vI x :: vI i :: vR kk :: st) := by
  subst hj
  exact k_iast C hk hc hin d k
theorem k_lastX (C : k_Cx p s m args meth c D cy ad bs ks M) {kk : Ky} {i : Int32} {x : Int64} {j : Nat} (hj : i.toNatClampNeg = j) (hk : kk ∈ ks) (hc : kk.1 = 9) (hin : vp_in i (k_ln kk)) (d : decode M.2.1 pc = .ok (.lastore, 1)) (k : k_V p l e R s m args below meth c D cy ad bs ks mr cells slots Q mi (k_ul ml kk j x) (pc + 1) (L) (st)) : k_V p l e R s m args below meth c D cy ad bs ks mr cells slots Q mi ml (pc) (L) (vL x :: vI i :: vR kk :: st) := by
  subst hj
  exact k_last C hk hc hin d k
theorem k_aaldX (C : k_Cx p s m args meth c D cy ad bs ks M) {kk kr : Ky} {i : Int32} {j : Nat} (hj : i.toNatClampNeg = j) (hk : kk ∈ ks) (hc : kk.1 = 10 ∨ kk.1 = 11 ∨ kk.1 = 12) (hin : vp_in i (k_ln kk)) (hv : mr kk j = some kr) (d : decode M.2.1 pc = .ok (.aaload, 1)) (k : k_V p l e R s m args below meth c D cy ad bs ks mr cells slots Q mi ml (pc + 1) (L) (vR kr :: st)) : k_V p l e R s m args below meth c D cy ad bs ks mr cells slots Q mi ml (pc) (L) (vI i :: vR kk :: st) := by
  subst hj
  exact k_aald C hk hc hin hv d k
theorem k_less {L' : List MV} (hlen : L'.length = L.length) (h : ∀ (i : Nat) (v : MV), L'[i]? = some v → k_isU v = false → L[i]? = some v) (k : k_V p l e R s m args below meth c D cy ad bs ks mr cells slots Q mi ml (pc) (L') (st)) : k_V p l e R s m args below meth c D cy ad bs ks mr cells slots Q mi ml (pc) (L) (st) :=
  fun H locs ls hP hS hl => k H locs ls hP hS ⟨hl.1.trans hlen.symm, hl.2.1, fun i v hi hu => hl.2.2 i v (h i v hi hu) hu⟩
theorem k_drop_0 { b : MV} {t : List MV} (k : k_V p l e R s m args below meth c D cy ad bs ks mr cells slots Q mi ml (pc) (vU :: t) (st)) : k_V p l e R s m args below meth c D cy ad bs ks mr cells slots Q mi ml (pc) (b :: t) (st) := by
  refine k_less (L' := vU :: t) rfl (fun j v hj hu => ?_) k
  match j, hj with
  | 0, hj => cases hj; cases hu
  | j + 1, hj => exact hj
theorem k_drop_1 {a0 b : MV} {t : List MV} (k : k_V p l e R s m args below meth c D cy ad bs ks mr cells slots Q mi ml (pc) (a0 :: vU :: t) (st)) : k_V p l e R s m args below meth c D cy ad bs ks mr cells slots Q mi ml (pc) (a0 :: b :: t) (st) := by
  refine k_less (L' := a0 :: vU :: t) rfl (fun j v hj hu => ?_) k
  match j, hj with
  | 0, hj => exact hj
  | 1, hj => cases hj; cases hu
  | j + 2, hj => exact hj
theorem k_drop_2 {a0 a1 b : MV} {t : List MV} (k : k_V p l e R s m args below meth c D cy ad bs ks mr cells slots Q mi ml (pc) (a0 :: a1 :: vU :: t) (st)) : k_V p l e R s m args below meth c D cy ad bs ks mr cells slots Q mi ml (pc) (a0 :: a1 :: b :: t) (st) := by
  refine k_less (L' := a0 :: a1 :: vU :: t) rfl (fun j v hj hu => ?_) k
  match j, hj with
  | 0, hj => exact hj
  | 1, hj => exact hj
  | 2, hj => cases hj; cases hu
  | j + 3, hj => exact hj
theorem k_drop_3 {a0 a1 a2 b : MV} {t : List MV} (k : k_V p l e R s m args below meth c D cy ad bs ks mr cells slots Q mi ml (pc) (a0 :: a1 :: a2 :: vU :: t) (st)) : k_V p l e R s m args below meth c D cy ad bs ks mr cells slots Q mi ml (pc) (a0 :: a1 :: a2 :: b :: t) (st) := by
  refine k_less (L' := a0 :: a1 :: a2 :: vU :: t) rfl (fun j v hj hu => ?_) k
  match j, hj with
  | 0, hj => exact hj
  | 1, hj => exact hj
  | 2, hj => exact hj
  | 3, hj => cases hj; cases hu
  | j + 4, hj => exact hj
theorem k_drop_4 {a0 a1 a2 a3 b : MV} {t : List MV} (k : k_V p l e R s m args below meth c D cy ad bs ks mr cells slots Q mi ml (pc) (a0 :: a1 :: a2 :: a3 :: vU :: t) (st)) : k_V p l e R s m args below meth c D cy ad bs ks mr cells slots Q mi ml (pc) (a0 :: a1 :: a2 :: a3 :: b :: t) (st) := by
  refine k_less (L' := a0 :: a1 :: a2 :: a3 :: vU :: t) rfl (fun j v hj hu => ?_) k
  match j, hj with
  | 0, hj => exact hj
  | 1, hj => exact hj
  | 2, hj => exact hj
  | 3, hj => exact hj
  | 4, hj => cases hj; cases hu
  | j + 5, hj => exact hj
theorem k_drop_5 {a0 a1 a2 a3 a4 b : MV} {t : List MV} (k : k_V p l e R s m args below meth c D cy ad bs ks mr cells slots Q mi ml (pc) (a0 :: a1 :: a2 :: a3 :: a4 :: vU :: t) (st)) : k_V p l e R s m args below meth c D cy ad bs ks mr cells slots Q mi ml (pc) (a0 :: a1 :: a2 :: a3 :: a4 :: b :: t) (st) := by
  refine k_less (L' := a0 :: a1 :: a2 :: a3 :: a4 :: vU :: t) rfl (fun j v hj hu => ?_) k
  match j, hj with
  | 0, hj => exact hj
  | 1, hj => exact hj
  | 2, hj => exact hj
  | 3, hj => exact hj
  | 4, hj => exact hj
  | 5, hj => cases hj; cases hu
  | j + 6, hj => exact hj
theorem k_drop_6 {a0 a1 a2 a3 a4 a5 b : MV} {t : List MV} (k : k_V p l e R s m args below meth c D cy ad bs ks mr cells slots Q mi ml (pc) (a0 :: a1 :: a2 :: a3 :: a4 :: a5 :: vU :: t) (st)) : k_V p l e R s m args below meth c D cy ad bs ks mr cells slots Q mi ml (pc) (a0 :: a1 :: a2 :: a3 :: a4 :: a5 :: b :: t) (st) := by
  refine k_less (L' := a0 :: a1 :: a2 :: a3 :: a4 :: a5 :: vU :: t) rfl (fun j v hj hu => ?_) k
  match j, hj with
  | 0, hj => exact hj
  | 1, hj => exact hj
  | 2, hj => exact hj
  | 3, hj => exact hj
  | 4, hj => exact hj
  | 5, hj => exact hj
  | 6, hj => cases hj; cases hu
  | j + 7, hj => exact hj
theorem k_drop_7 {a0 a1 a2 a3 a4 a5 a6 b : MV} {t : List MV} (k : k_V p l e R s m args below meth c D cy ad bs ks mr cells slots Q mi ml (pc) (a0 :: a1 :: a2 :: a3 :: a4 :: a5 :: a6 :: vU :: t) (st)) : k_V p l e R s m args below meth c D cy ad bs ks mr cells slots Q mi ml (pc) (a0 :: a1 :: a2 :: a3 :: a4 :: a5 :: a6 :: b :: t) (st) := by
  refine k_less (L' := a0 :: a1 :: a2 :: a3 :: a4 :: a5 :: a6 :: vU :: t) rfl (fun j v hj hu => ?_) k
  match j, hj with
  | 0, hj => exact hj
  | 1, hj => exact hj
  | 2, hj => exact hj
  | 3, hj => exact hj
  | 4, hj => exact hj
  | 5, hj => exact hj
  | 6, hj => exact hj
  | 7, hj => cases hj; cases hu
  | j + 8, hj => exact hj
theorem k_drop_8 {a0 a1 a2 a3 a4 a5 a6 a7 b : MV} {t : List MV} (k : k_V p l e R s m args below meth c D cy ad bs ks mr cells slots Q mi ml (pc) (a0 :: a1 :: a2 :: a3 :: a4 :: a5 :: a6 :: a7 :: vU :: t) (st)) : k_V p l e R s m args below meth c D cy ad bs ks mr cells slots Q mi ml (pc) (a0 :: a1 :: a2 :: a3 :: a4 :: a5 :: a6 :: a7 :: b :: t) (st) := by
  refine k_less (L' := a0 :: a1 :: a2 :: a3 :: a4 :: a5 :: a6 :: a7 :: vU :: t) rfl (fun j v hj hu => ?_) k
  match j, hj with
  | 0, hj => exact hj
  | 1, hj => exact hj
  | 2, hj => exact hj
  | 3, hj => exact hj
  | 4, hj => exact hj
  | 5, hj => exact hj
  | 6, hj => exact hj
  | 7, hj => exact hj
  | 8, hj => cases hj; cases hu
  | j + 9, hj => exact hj
theorem k_drop_9 {a0 a1 a2 a3 a4 a5 a6 a7 a8 b : MV} {t : List MV} (k : k_V p l e R s m args below meth c D cy ad bs ks mr cells slots Q mi ml (pc) (a0 :: a1 :: a2 :: a3 :: a4 :: a5 :: a6 :: a7 :: a8 :: vU :: t) (st)) : k_V p l e R s m args below meth c D cy ad bs ks mr cells slots Q mi ml (pc) (a0 :: a1 :: a2 :: a3 :: a4 :: a5 :: a6 :: a7 :: a8 :: b :: t) (st) := by
  refine k_less (L' := a0 :: a1 :: a2 :: a3 :: a4 :: a5 :: a6 :: a7 :: a8 :: vU :: t) rfl (fun j v hj hu => ?_) k
  match j, hj with
  | 0, hj => exact hj
  | 1, hj => exact hj
  | 2, hj => exact hj
  | 3, hj => exact hj
  | 4, hj => exact hj
  | 5, hj => exact hj
  | 6, hj => exact hj
  | 7, hj => exact hj
  | 8, hj => exact hj
  | 9, hj => cases hj; cases hu
  | j + 10, hj => exact hj
theorem k_drop_10 {a0 a1 a2 a3 a4 a5 a6 a7 a8 a9 b : MV} {t : List MV} (k : k_V p l e R s m args below meth c D cy ad bs ks mr cells slots Q mi ml (pc) (a0 :: a1 :: a2 :: a3 :: a4 :: a5 :: a6 :: a7 :: a8 :: a9 :: vU :: t) (st)) : k_V p l e R s m args below meth c D cy ad bs ks mr cells slots Q mi ml (pc) (a0 :: a1 :: a2 :: a3 :: a4 :: a5 :: a6 :: a7 :: a8 :: a9 :: b :: t) (st) := by
  refine k_less (L' := a0 :: a1 :: a2 :: a3 :: a4 :: a5 :: a6 :: a7 :: a8 :: a9 :: vU :: t) rfl (fun j v hj hu => ?_) k
  match j, hj with
  | 0, hj => exact hj
  | 1, hj => exact hj
  | 2, hj => exact hj
  | 3, hj => exact hj
  | 4, hj => exact hj
  | 5, hj => exact hj
  | 6, hj => exact hj
  | 7, hj => exact hj
  | 8, hj => exact hj
  | 9, hj => exact hj
  | 10, hj => cases hj; cases hu
  | j + 11, hj => exact hj
theorem k_drop_11 {a0 a1 a2 a3 a4 a5 a6 a7 a8 a9 a10 b : MV} {t : List MV} (k : k_V p l e R s m args below meth c D cy ad bs ks mr cells slots Q mi ml (pc) (a0 :: a1 :: a2 :: a3 :: a4 :: a5 :: a6 :: a7 :: a8 :: a9 :: a10 :: vU :: t) (st)) : k_V p l e R s m args below meth c D cy ad bs ks mr cells slots Q mi ml (pc) (a0 :: a1 :: a2 :: a3 :: a4 :: a5 :: a6 :: a7 :: a8 :: a9 :: a10 :: b :: t) (st) := by
  refine k_less (L' := a0 :: a1 :: a2 :: a3 :: a4 :: a5 :: a6 :: a7 :: a8 :: a9 :: a10 :: vU :: t) rfl (fun j v hj hu => ?_) k
  match j, hj with
  | 0, hj => exact hj
  | 1, hj => exact hj
  | 2, hj => exact hj
  | 3, hj => exact hj
  | 4, hj => exact hj
  | 5, hj => exact hj
  | 6, hj => exact hj
  | 7, hj => exact hj
  | 8, hj => exact hj
  | 9, hj => exact hj
  | 10, hj => exact hj
  | 11, hj => cases hj; cases hu
  | j + 12, hj => exact hj
theorem k_drop_12 {a0 a1 a2 a3 a4 a5 a6 a7 a8 a9 a10 a11 b : MV} {t : List MV} (k : k_V p l e R s m args below meth c D cy ad bs ks mr cells slots Q mi ml (pc) (a0 :: a1 :: a2 :: a3 :: a4 :: a5 :: a6 :: a7 :: a8 :: a9 :: a10 :: a11 :: vU :: t) (st)) : k_V p l e R s m args below meth c D cy ad bs ks mr cells slots Q mi ml (pc) (a0 :: a1 :: a2 :: a3 :: a4 :: a5 :: a6 :: a7 :: a8 :: a9 :: a10 :: a11 :: b :: t) (st) := by
  refine k_less (L' := a0 :: a1 :: a2 :: a3 :: a4 :: a5 :: a6 :: a7 :: a8 :: a9 :: a10 :: a11 :: vU :: t) rfl (fun j v hj hu => ?_) k
  match j, hj with
  | 0, hj => exact hj
  | 1, hj => exact hj
  | 2, hj => exact hj
  | 3, hj => exact hj
  | 4, hj => exact hj
  | 5, hj => exact hj
  | 6, hj => exact hj
  | 7, hj => exact hj
  | 8, hj => exact hj
  | 9, hj => exact hj
  | 10, hj => exact hj
  | 11, hj => exact hj
  | 12, hj => cases hj; cases hu
  | j + 13, hj => exact hj
theorem k_tabIn (C : k_Cx p s m args meth c D cy ad bs ks M) {dflt lo hi : Int} {offs : Array Int} {len : Nat} {x : Int32} {off : Int} (v : Int32) (tgt : Nat) (d : decode M.2.1 pc = .ok (.tableswitch dflt lo hi offs, len)) (hxv : x = v) (h1 : ¬ v.toInt < lo) (h2 : ¬ hi < v.toInt) (ho : offs[(v.toInt - lo).toNat]? = some off) (ht : (pc : Int) + off = (tgt : Int)) (k : k_V p l e R s m args below meth c D cy ad bs ks mr cells slots Q mi ml (tgt) (L) (st)) : k_V p l e R s m args below meth c D cy ad bs ks mr cells slots Q mi ml (pc) (L) (vI x :: st) := by
  subst hxv
  obtain ⟨⟨hx, hb, hml, hown, hts⟩, hF, hr, hlk, hnm⟩ := C
  intro H locs ls hP hS hl
  exact lv_tableIn hx hb d h1 h2 ho ht (k H locs ls hP hS hl)
theorem k_tabOut (C : k_Cx p s m args meth c D cy ad bs ks M) {dflt lo hi : Int} {offs : Array Int} {len : Nat} {x : Int32} (tgt : Nat) (d : decode M.2.1 pc = .ok (.tableswitch dflt lo hi offs, len)) (h : x.toInt < lo ∨ hi < x.toInt) (ht : (pc : Int) + dflt = (tgt : Int)) (k : k_V p l e R s m args below meth c D cy ad bs ks mr cells slots Q mi ml (tgt) (L) (st)) : k_V p l e R s m args below meth c D cy ad bs ks mr cells slots Q mi ml (pc) (L) (vI x :: st) := by
  obtain ⟨⟨hx, hb, hml, hown, hts⟩, hF, hr, hlk, hnm⟩ := C
  intro H locs ls hP hS hl
  exact lv_tableOut hx hb d h ht (k H locs ls hP hS hl)
theorem k_lkG (C : k_Cx p s m args meth c D cy ad bs ks M) {dflt : Int} {ps : Array (Int × Int)} {len : Nat} {x : Int32} {off : Int} (tgt : Nat) (d : decode M.2.1 pc = .ok (.lookupswitch dflt ps, len)) (hp : (ps.toList.zip (ps.toList.drop 1)).all (fun (a, next) => a.1 < next.1) = true) (ho : Op.lookupswitch.offset ps.toList dflt x.toInt = off) (ht : (pc : Int) + off = (tgt : Int)) (k : k_V p l e R s m args below meth c D cy ad bs ks mr cells slots Q mi ml (tgt) (L) (st)) : k_V p l e R s m args below meth c D cy ad bs ks mr cells slots Q mi ml (pc) (L) (vI x :: st) := by
  obtain ⟨⟨hx, hb, hml, hown, hts⟩, hF, hr, hlk, hnm⟩ := C
  intro H locs ls hP hS hl
  exact lv_lookup hx hb d hp ho ht (k H locs ls hP hS hl)
theorem k_cast {L' : List MV} {mi' : MemI} {ml' : MemL} (hL : L' = L) (hm : mi' = mi) (hl : ml' = ml) (k : k_V p l e R s m args below meth c D cy ad bs ks mr cells slots Q mi' ml' (pc) (L') (st)) : k_V p l e R s m args below meth c D cy ad bs ks mr cells slots Q mi ml (pc) (L) (st) := by
  subst hL; subst hm; subst hl; exact k
theorem k_copyl (C : k_Cx p s m args meth c D cy ad bs ks M) {idx : Nat} {k0 k1 : Ky} {sp dp n : Int32} {nf : Nat} {rest : List MV} (hlw : Cond.methodLink M.1.cls idx arraycopyName ∈ k_WS) (h1 : Cond.native arraycopyName ∈ k_WS) (h2 : Cond.static arraycopyName ∈ k_WS) (h3 : Cond.initialized "java/lang/System" ∈ k_WS) (hk0 : k0 ∈ ks) (hk1 : k1 ∈ ks) (hc0 : k0.1 = 9) (hc1 : k1.1 = 9) (a1 : ¬ sp < 0) (a2 : ¬ dp < 0) (a3 : ¬ n < 0) (a4 : sp.toNatClampNeg + n.toNatClampNeg ≤ k_ln k0) (a5 : dp.toNatClampNeg + n.toNatClampNeg ≤ k_ln k1) (hnf : 0 < nf) (hL : L.length = M.2.2.1) (hrest : rest.length ≤ 4) (d : decode M.2.1 pc = .ok (.invokestatic idx, 3)) (k : k_V p l e (k_rm nf) s m args below meth c D cy ad bs ks mr 0 0 Q mi (fun kx jx => if kx = k1 then va_cpy (ml k0) (ml k1) sp.toNatClampNeg dp.toNatClampNeg n.toNatClampNeg jx else ml kx jx) (pc + 3) (L) (rest)) : k_V p l e (k_rm nf) s m args below meth c D cy ad bs ks mr 0 0 Q mi ml (pc) (L) (vI n :: vI dp :: vR k1 :: vI sp :: vR k0 :: rest) := by
  obtain ⟨⟨hx, hb, hml, hown, hts⟩, ⟨hbs, hK, hNW, hok, hSt, hRs, hAO⟩, hr, hlk, hnm⟩ := C
  intro H locs ls hP hS hl
  obtain ⟨n0, hn0, hw0⟩ := k_at (cy := cy) (ad := ad) (mr := mr) (mi := mi) (ml := ml) hk0
  obtain ⟨n1, hn1, hw1⟩ := k_at (cy := cy) (ad := ad) (mr := mr) (mi := mi) (ml := ml) hk1
  rw [k_cellL hc0] at hw0
  rw [k_cellL hc1] at hw1
  have hset := k_set (bs := bs) (cy := cy) (ad := ad) (mr := mr) (mr' := mr) (mi := mi) (mi' := mi) (ml := ml) (ml' := (fun kx jx => if kx = k1 then va_cpy (ml k0) (ml k1) sp.toNatClampNeg dp.toNatClampNeg n.toNatClampNeg jx else ml kx jx)) (e := .inl (cy 9, k_ln k1, .inr (.inl (va_cpy (ml k0) (ml k1) sp.toNatClampNeg dp.toNatClampNeg n.toNatClampNeg)))) hok hn1 (by rw [k_cellL hc1]; simp) (fun k' hk' => k_cell_eq rfl (by funext jx; simp [hk']) rfl)
  have h9 := k_catsum ad rest
  exact va_copyl hx hb (hml.trans (hL.symm.trans hl.1.symm)) hown (hts _ hlw) (hts _ h1) (hts _ h2) (hts _ h3) hK hP (k_okD hok cy mr mi ml) hS n0 n1 1 1 hw0 hw1 rfl rfl rfl a1 a2 a3 a4 a5 (fun _ _ => rfl) (show 1 ≤ (k_rm nf).frames from hnf) (by rw [show nativeFrameWords "java/lang/System" "arraycopy" 5 = 7 by decide]; show _ ≤ 40 * nf; omega) d (fun H1 locs1 hP1 hD1 hS1 => k H1 locs1 ls (by rw [← hset]; exact hP1) hS1 hl)
theorem k_castS {st' : List MV} (hS : st' = st) (k : k_V p l e R s m args below meth c D cy ad bs ks mr cells slots Q mi ml (pc) (L) (st')) : k_V p l e R s m args below meth c D cy ad bs ks mr cells slots Q mi ml (pc) (L) (st) := by
  subst hS; exact k
theorem k_acmpne (C : k_Cx p s m args meth c D cy ad bs ks M) {k1 k2 : Ky} {cnd : Prop} {off : Int} (tgt : Nat) (d : decode M.2.1 pc = .ok (.if_acmp .ne off, 3)) (ht : (pc : Int) + off = (tgt : Int)) (h1 : k1 ∈ ks) (h2 : k2 ∈ ks) (hc : k1 = k2 ↔ cnd) (kt : ¬ cnd → k_V p l e R s m args below meth c D cy ad bs ks mr cells slots Q mi ml (tgt) (L) (st)) (kf : cnd → k_V p l e R s m args below meth c D cy ad bs ks mr cells slots Q mi ml (pc + 3) (L) (st)) : k_V p l e R s m args below meth c D cy ad bs ks mr cells slots Q mi ml (pc) (L) (vR k2 :: vR k1 :: st) := by
  obtain ⟨⟨hx, hb, hml, hown, hts⟩, ⟨hbs, hK, hNW, hok, hSt, hRs, hAO⟩, hr, hlk, hnm⟩ := C
  intro H locs ls hP hS hl
  have hinj : some (ad k1) = some (ad k2) → k1 = k2 := by
    intro q
    obtain ⟨n1, e1⟩ := List.getElem?_of_mem h1
    obtain ⟨n2, e2⟩ := List.getElem?_of_mem h2
    have h3 := hok.1 n1 n2 k1 k2 e1 e2 (Option.some.inj q)
    subst h3
    exact Option.some.inj (e1.symm.trans e2)
  exact lv_acmp_ne (rx := some (ad k1)) (ry := some (ad k2)) hx hb d ht (fun q => kt (fun r => q (by rw [hc.mpr r])) H locs ls hP hS hl) (fun q => kf (hc.mp (hinj q)) H locs ls hP hS hl)
theorem k_lkp (C : k_Cx p s m args meth c D cy ad bs ks M) {dflt : Int} {ps : Array (Int × Int)} {len : Nat} {x : Int32} {off : Int} (v : Int32) (tgt : Nat) (d : decode M.2.1 pc = .ok (.lookupswitch dflt ps, len)) (hxv : x = v) (hp : (ps.toList.zip (ps.toList.drop 1)).all (fun (a, next) => a.1 < next.1) = true) (ho : Op.lookupswitch.offset ps.toList dflt v.toInt = off) (ht : (pc : Int) + off = (tgt : Int)) (k : k_V p l e R s m args below meth c D cy ad bs ks mr cells slots Q mi ml (tgt) (L) (st)) : k_V p l e R s m args below meth c D cy ad bs ks mr cells slots Q mi ml (pc) (L) (vI x :: st) := by
  subst hxv
  exact k_lkG C tgt d hp ho ht k
theorem k_lkn (l : List (Int × Int)) (dflt z : Int) (h : ∀ q ∈ l, z ≠ q.1) : Op.lookupswitch.offset l dflt z = dflt := by
  induction l with
  | nil => simp [Op.lookupswitch.offset]
  | cons q l ih =>
    have h1 := h q List.mem_cons_self
    have h2 := ih (fun r hr => h r (List.mem_cons_of_mem _ hr))
    simp only [Op.lookupswitch.offset] at h2 ⊢
    simp_all [List.find?_cons]
    intro hq
    exact absurd hq.symm (by assumption)
theorem k_lkD (C : k_Cx p s m args meth c D cy ad bs ks M) {dflt : Int} {ps : Array (Int × Int)} {len : Nat} {x : Int32} (tgt : Nat) (d : decode M.2.1 pc = .ok (.lookupswitch dflt ps, len)) (hp : (ps.toList.zip (ps.toList.drop 1)).all (fun (a, next) => a.1 < next.1) = true) (ht : (pc : Int) + dflt = (tgt : Int)) (h : ∀ q ∈ ps.toList, x.toInt ≠ q.1) (k : k_V p l e R s m args below meth c D cy ad bs ks mr cells slots Q mi ml (tgt) (L) (st)) : k_V p l e R s m args below meth c D cy ad bs ks mr cells slots Q mi ml (pc) (L) (vI x :: st) :=
  k_lkG C tgt d hp (k_lkn _ _ _ h) ht k
theorem k_lkc {z : Int} {q : Int × Int} {l : List (Int × Int)} (h : z ≠ q.1) (hl : ∀ r ∈ l, z ≠ r.1) : ∀ r ∈ q :: l, z ≠ r.1 := List.forall_mem_cons.mpr ⟨h, hl⟩
theorem k_lkv {x v : Int32} {z : Int} (h : ¬ x = v) (hv : v.toInt = z) : x.toInt ≠ z := fun q => h (Int32.toInt_inj.mp (q.trans hv.symm))
end KX
theorem k_down {P : Nat → Prop} (n : Nat) (hn : P n) (hs : ∀ j, j < n → P (j + 1) → P j) : P 0 := by
  have h : ∀ k, k ≤ n → P (n - k) := by
    intro k
    induction k with
    | zero => intro _; exact hn
    | succ k ih =>
      intro hk
      have h1 := ih (by omega)
      have h2 := hs (n - (k + 1)) (by omega)
      rw [show n - (k + 1) + 1 = n - k by omega] at h2
      exact h2 h1
  have := h n (Nat.le_refl n)
  rwa [Nat.sub_self] at this
theorem k_nge {N : Int32} {n j : Nat} (hN : N = nI n) (hn : n < 2 ^ 31) (h : j < n) : ¬ N ≤ nI j := by
  rw [hN]
  exact nI_ge h hn
theorem k_out {x : Int32} (lo hi : Int) (h : ∀ v : Int, lo ≤ v → v ≤ hi → x ≠ Int32.ofInt v) : x.toInt < lo ∨ hi < x.toInt := by
  by_cases h1 : x.toInt < lo
  · exact Or.inl h1
  · by_cases h2 : hi < x.toInt
    · exact Or.inr h2
    · exact absurd (Int32.ofInt_toInt x).symm (h x.toInt (by omega) (by omega))
theorem k_fI {x y : Int32} {mi : MemI} {ml : MemL} (h : y = x) : k_rt (some (vI y)) mi ml (some (vI x)) mi ml := by subst h; exact k_rt_rf
theorem k_fL {x y : Int64} {mi : MemI} {ml : MemL} (h : y = x) : k_rt (some (vL y)) mi ml (some (vL x)) mi ml := by subst h; exact k_rt_rf
theorem k_fIm {x : Int32} {mi' : MemI} {ml : MemL} {F : Int32 × MemI} (h : F = (x, mi')) : k_rt (some (vI F.1)) F.2 ml (some (vI x)) mi' ml := by subst h; exact k_rt_rf
theorem k_fm {mi' F : MemI} {ml : MemL} (h : F = mi') : k_rt none F ml none mi' ml := by subst h; exact k_rt_rf
theorem k_fIml {x : Int32} {mi' : MemI} {ml' : MemL} {F : Int32 × MemI × MemL} (h : F = (x, mi', ml')) : k_rt (some (vI F.1)) F.2.1 F.2.2 (some (vI x)) mi' ml' := by subst h; exact k_rt_rf
theorem k_fml {mi' : MemI} {ml' : MemL} {F : MemI × MemL} (h : F = (mi', ml')) : k_rt none F.1 F.2 none mi' ml' := by subst h; exact k_rt_rf
theorem k_fIl {x : Int32} {mi : MemI} {ml' : MemL} {F : Int32 × MemL} (h : F = (x, ml')) : k_rt (some (vI F.1)) mi F.2 (some (vI x)) mi ml' := by subst h; exact k_rt_rf
theorem k_fl {mi : MemI} {ml' F : MemL} (h : F = ml') : k_rt none mi F none mi ml' := by subst h; exact k_rt_rf
theorem k_ne0 {x : Int32} (h : ¬ x ≤ 0) : ¬ x = 0 := fun q => h (by subst q; decide)
theorem k_fN {mi : MemI} {ml : MemL} : k_rt none mi ml none mi ml := k_rt_rf
theorem k_fR {k k' : Ky} {mi : MemI} {ml : MemL} (h : k' = k) : k_rt (some (vR k')) mi ml (some (vR k)) mi ml := by subst h; exact k_rt_rf
