/-! the cells that the system has once it is made, and what refers to what -/
def k_KS : List Ky :=
  ((List.range 3).flatMap (fun g => [(2, g, 0), (11, g, 0), (10, g, 0)])) ++
  ((List.range 3).flatMap (fun g => (List.range 6).map (fun i => (1, g, i)))) ++
  ((List.range 3).flatMap (fun g => (List.range 6).map (fun i => (0, g, i)))) ++
  ((List.range 8).flatMap (fun i => [(5, 0, i), (9, 0, i)])) ++
  [(12, 0, 0), (3, 0, 0), (4, 0, 0), (6, 0, 0), (7, 0, 0), (8, 100, 0), (8, 101, 0), (8, 102, 0), (9, 1, 0), (9, 2, 0)] ++
  ([5, 6, 7, 8, 9, 10, 11, 12, 13, 14, 15, 16, 17, 18, 19, 20, 21, 24, 25, 26, 27, 33, 34, 35, 36, 37, 38, 39, 40, 41, 44, 45, 46, 47, 50].map (fun n => (8, n, 0)))
def k_R0 : MemR := fun k j => match k with
  | (2, g, _) => if j = 0 then some (11, g, 0) else if j = 1 then some (10, g, 0) else none
  | (11, g, _) => some (1, g, j)
  | (10, g, _) => some (0, g, j)
  | (12, _, _) => some (5, 0, j)
  | (5, _, i) => some (9, 0, i)
  | (3, _, _) => some (8, 102, 0)
  | (4, _, _) => some (8, 101, 0)
  | (6, _, _) => if j = 0 then some (2, 0, 0) else if j = 1 then some (2, 1, 0) else if j = 2 then some (2, 2, 0) else if j = 4 then some (12, 0, 0) else if j = 5 then some (8, 100, 0) else if j = 6 then some (4, 0, 0) else some (3, 0, 0)
  | (7, _, _) => if j = 22 then some (9, 1, 0) else if j = 23 then some (9, 2, 0) else if k_rf 7 j = true then some (8, j, 0) else none
  | _ => none
theorem k_3 {P : Nat → Prop} (h0 : P 0) (h1 : P 1) (h2 : P 2) {g : Nat} (hg : g < 3) : P g := by
  rcases (show g = 0 ∨ g = 1 ∨ g = 2 by omega) with rfl | rfl | rfl <;> assumption
theorem k_6 {P : Nat → Prop} (h0 : P 0) (h1 : P 1) (h2 : P 2) (h3 : P 3) (h4 : P 4) (h5 : P 5) {g : Nat} (hg : g < 6) : P g := by
  rcases (show g = 0 ∨ g = 1 ∨ g = 2 ∨ g = 3 ∨ g = 4 ∨ g = 5 by omega) with rfl | rfl | rfl | rfl | rfl | rfl <;> assumption
theorem k_in1 {g i : Nat} (hg : g < 3) (hi : i < 6) : (1, g, i) ∈ k_KS := by
  have h : ∀ g, g < 3 → ∀ i, i < 6 → (1, g, i) ∈ k_KS := by decide +kernel
  exact h g hg i hi
theorem k_in0 {g i : Nat} (hg : g < 3) (hi : i < 6) : (0, g, i) ∈ k_KS := by
  have h : ∀ g, g < 3 → ∀ i, i < 6 → (0, g, i) ∈ k_KS := by decide +kernel
  exact h g hg i hi
theorem k_in2 {g : Nat} (hg : g < 3) : (2, g, 0) ∈ k_KS := by
  have h : ∀ g, g < 3 → (2, g, 0) ∈ k_KS := by decide +kernel
  exact h g hg
theorem k_in10 {g : Nat} (hg : g < 3) : (10, g, 0) ∈ k_KS := by
  have h : ∀ g, g < 3 → (10, g, 0) ∈ k_KS := by decide +kernel
  exact h g hg
theorem k_in11 {g : Nat} (hg : g < 3) : (11, g, 0) ∈ k_KS := by
  have h : ∀ g, g < 3 → (11, g, 0) ∈ k_KS := by decide +kernel
  exact h g hg
theorem k_in5 {i : Nat} (hi : i < 8) : (5, 0, i) ∈ k_KS := by
  have h : ∀ i, i < 8 → (5, 0, i) ∈ k_KS := by decide +kernel
  exact h i hi
theorem k_in9 {i : Nat} (hi : i < 8) : (9, 0, i) ∈ k_KS := by
  have h : ∀ i, i < 8 → (9, 0, i) ∈ k_KS := by decide +kernel
  exact h i hi
theorem k_in3 : (3, 0, 0) ∈ k_KS := by decide +kernel
theorem k_in4 : (4, 0, 0) ∈ k_KS := by decide +kernel
theorem k_in6 : (6, 0, 0) ∈ k_KS := by decide +kernel
theorem k_in7 : (7, 0, 0) ∈ k_KS := by decide +kernel
theorem k_in12 : (12, 0, 0) ∈ k_KS := by decide +kernel
theorem k_inc (i : Nat) : nI i + Int32.ofInt 1 = nI (i + 1) := nI_1 i
theorem k_vin {x N : Int32} {n : Nat} (h0 : ¬ x < 0) (h1 : ¬ N ≤ x) (hN : N.toInt = n) : vp_in x n := by
  rw [vp_in_iff]
  have h2 : ¬ x.toInt < 0 := fun h => h0 (Int32.lt_iff_toInt_lt.mpr h)
  have h3 : ¬ N.toInt ≤ x.toInt := fun h => h1 (Int32.le_iff_toInt_le.mpr h)
  omega
theorem k_vin2 {x N : Int32} {n : Nat} (h0 : 0 ≤ x) (h1 : x < N) (hN : N.toInt = n) : vp_in x n := by
  rw [vp_in_iff]
  have h2 : (0 : Int32).toInt ≤ x.toInt := Int32.le_iff_toInt_le.mp h0
  have h3 : x.toInt < N.toInt := Int32.lt_iff_toInt_lt.mp h1
  have h4 : (0 : Int32).toInt = 0 := by decide
  omega
theorem k_clamp {x : Int32} {n : Nat} (h : vp_in x n) : x.toNatClampNeg < n := by
  unfold vp_in at h
  omega
/-- a place, or nobody -/
def k_opt (c g t : Nat) : Option Ky := if t < 6 then some (c, g, t) else none
theorem k_opt_s {c g t : Nat} (h : t < 6) : k_opt c g t = some (c, g, t) := if_pos h
theorem k_opt_n {c g t : Nat} (h : ¬ t < 6) : k_opt c g t = none := if_neg h
theorem k_vin3 {x N : Int32} {n : Nat} (h0 : ¬ x < 0) (h1 : x < N) (hN : N.toInt = n) : vp_in x n := k_vin h0 (Int32.not_le.mpr h1) hN
theorem k_vd {x : Int32} {n : Nat} (h : ¬ (x < 0 ∨ n ≤ x.toNatClampNeg)) : vp_in x n := h
theorem k_in8 {n : Nat} (h : (8, n, 0) ∈ k_KS) : (8, n, 0) ∈ k_KS := h
