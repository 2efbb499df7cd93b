/-! parting, pure: of all ways the first that is least -/
def pa_b2 : Option (Nat × (Nat → Nat)) → Option (Nat × (Nat → Nat)) → Option (Nat × (Nat → Nat))
  | none, y => y
  | some a, none => some a
  | some a, some b => if b.1 < a.1 then some b else some a
theorem pa_b2n : ∀ x, pa_b2 x none = x
  | none => rfl
  | some _ => rfl
theorem pa_as (x y z : Option (Nat × (Nat → Nat))) : pa_b2 (pa_b2 x y) z = pa_b2 x (pa_b2 y z) := by
  cases x with
  | none => rfl
  | some xa =>
    cases y with
    | none => rfl
    | some ya =>
      cases z with
      | none => rw [pa_b2n, pa_b2n]
      | some za =>
        simp only [pa_b2]
        by_cases c1 : ya.1 < xa.1
        · rw [if_pos c1]
          simp only [pa_b2]
          by_cases c2 : za.1 < ya.1
          · rw [if_pos c2]; simp only [pa_b2]; rw [if_pos (show za.1 < xa.1 by omega)]
          · rw [if_neg c2]; simp only [pa_b2]; rw [if_pos c1]
        · rw [if_neg c1]
          simp only [pa_b2]
          by_cases c2 : za.1 < ya.1
          · rw [if_pos c2]
          · rw [if_neg c2]; simp only [pa_b2]; rw [if_neg c1, if_neg (show ¬ za.1 < xa.1 by omega)]
def pa_ge (x : Nat) (y : Option (Nat × (Nat → Nat))) : Prop := ∀ v a, y = some (v, a) → x ≤ v
theorem pa_ge_b2 {x : Nat} {y z : Option (Nat × (Nat → Nat))} (hy : pa_ge x y) (hz : pa_ge x z) : pa_ge x (pa_b2 y z) := by
  intro v a h
  cases y with
  | none => exact hz v a h
  | some ya =>
    cases z with
    | none => exact hy v a h
    | some za =>
      simp only [pa_b2] at h
      split at h
      · exact hz v a h
      · exact hy v a h
theorem pa_skip {v : Nat} {a : Nat → Nat} {y : Option (Nat × (Nat → Nat))} (h : pa_ge v y) : pa_b2 (some (v, a)) y = some (v, a) := by
  cases y with
  | none => rfl
  | some ya =>
    have := h ya.1 ya.2 rfl
    simp only [pa_b2]
    rw [if_neg (by omega)]
def pa_L (R : Nat → Option (Nat × (Nat → Nat))) : Nat → Nat → Option (Nat × (Nat → Nat))
  | 0, _ => none
  | u + 1, c => pa_b2 (R c) (pa_L R u (c + 1))
theorem pa_L_ge {x : Nat} {R : Nat → Option (Nat × (Nat → Nat))} (h : ∀ c, pa_ge x (R c)) : ∀ u c, pa_ge x (pa_L R u c) := by
  intro u
  induction u with
  | zero => intro c v a e; cases e
  | succ u ih => intro c; exact pa_ge_b2 (h c) (ih (c + 1))
theorem pa_L_no {R : Nat → Option (Nat × (Nat → Nat))} : ∀ u c, (∀ k, c ≤ k → R k = none) → pa_L R u c = none := by
  intro u
  induction u with
  | zero => intro c _; rfl
  | succ u ih =>
    intro c h
    show pa_b2 (R c) (pa_L R u (c + 1)) = none
    rw [h c (Nat.le_refl _), ih (c + 1) (fun k hk => h k (by omega))]
    rfl
theorem pa_b2_le {x : Nat} {y z : Option (Nat × (Nat → Nat))} (hy : ∀ v a, y = some (v, a) → v ≤ x) (hz : ∀ v a, z = some (v, a) → v ≤ x) : ∀ v a, pa_b2 y z = some (v, a) → v ≤ x := by
  intro v a h
  cases y with
  | none => exact hz v a h
  | some ya =>
    cases z with
    | none => exact hy v a h
    | some za =>
      simp only [pa_b2] at h
      split at h
      · exact hz v a h
      · exact hy v a h
theorem pa_L_le {x : Nat} {R : Nat → Option (Nat × (Nat → Nat))} (h : ∀ c v a, R c = some (v, a) → v ≤ x) : ∀ u c v a, pa_L R u c = some (v, a) → v ≤ x := by
  intro u
  induction u with
  | zero => intro c v a e; cases e
  | succ u ih => intro c; exact pa_b2_le (h c) (ih (c + 1))
def pa_up (f : Nat → Nat) (c v : Nat) : Nat → Nat := fun j => if j = c then v else f j
theorem pa_upS {f : Nat → Nat} {c v : Nat} : pa_up f c v c = v := if_pos rfl
theorem pa_upO {f : Nat → Nat} {c v j : Nat} (h : j ≠ c) : pa_up f c v j = f j := if_neg h
def pa_mx (L : Nat → Nat) : Nat → Nat
  | 0 => 0
  | n + 1 => max (pa_mx L n) (L n)
def pa_su (L : Nat → Nat) : Nat → Nat
  | 0 => 0
  | n + 1 => pa_su L n + L n
def pa_co (op : Nat → Bool) : Nat → Nat
  | 0 => 0
  | n + 1 => if op n then pa_co op n + 1 else pa_co op n
def pa_sw (w : Nat → Nat) : Nat → Nat → Nat
  | _, 0 => 0
  | i, n + 1 => w i + pa_sw w (i + 1) n
theorem pa_mx_ext {L M : Nat → Nat} : ∀ n, (∀ c, c < n → M c = L c) → pa_mx M n = pa_mx L n := by
  intro n
  induction n with
  | zero => intro _; rfl
  | succ n ih => intro h; show max (pa_mx M n) (M n) = max (pa_mx L n) (L n); rw [ih (fun c hc => h c (by omega)), h n (by omega)]
theorem pa_su_ext {L M : Nat → Nat} : ∀ n, (∀ c, c < n → M c = L c) → pa_su M n = pa_su L n := by
  intro n
  induction n with
  | zero => intro _; rfl
  | succ n ih => intro h; show pa_su M n + M n = pa_su L n + L n; rw [ih (fun c hc => h c (by omega)), h n (by omega)]
theorem pa_mx_up {L : Nat → Nat} {c x : Nat} (hx : L c ≤ x) : ∀ n, c < n → pa_mx (pa_up L c x) n = max (pa_mx L n) x := by
  intro n
  induction n with
  | zero => intro h; omega
  | succ n ih =>
    intro h
    show max (pa_mx (pa_up L c x) n) (pa_up L c x n) = max (max (pa_mx L n) (L n)) x
    by_cases e : c = n
    · subst e
      rw [pa_upS, pa_mx_ext (L := L) c (fun k hk => pa_upO (by omega))]
      omega
    · rw [ih (by omega), pa_upO (by omega)]
      omega
theorem pa_su_up {L : Nat → Nat} {c y : Nat} : ∀ n, c < n → pa_su (pa_up L c (L c + y)) n = pa_su L n + y := by
  intro n
  induction n with
  | zero => intro h; omega
  | succ n ih =>
    intro h
    show pa_su (pa_up L c (L c + y)) n + pa_up L c (L c + y) n = pa_su L n + L n + y
    by_cases e : c = n
    · subst e
      rw [pa_upS, pa_su_ext (L := L) c (fun k hk => pa_upO (by omega))]
      omega
    · rw [ih (by omega), pa_upO (by omega)]
      omega
theorem pa_su_le {op : Nat → Bool} {L : Nat → Nat} : ∀ n, (∀ c, c < n → op c = false → L c = 0) → pa_su L n ≤ pa_co op n * pa_mx L n := by
  intro n
  induction n with
  | zero => intro _; exact Nat.zero_le _
  | succ n ih =>
    intro h
    have i1 := ih (fun c hc => h c (by omega))
    have m1 : pa_mx L n ≤ pa_mx L (n + 1) := Nat.le_max_left _ _
    have m2 : L n ≤ pa_mx L (n + 1) := Nat.le_max_right _ _
    have i2 := Nat.le_trans i1 (Nat.mul_le_mul_left (pa_co op n) m1)
    show pa_su L n + L n ≤ (if op n then pa_co op n + 1 else pa_co op n) * pa_mx L (n + 1)
    by_cases o : op n = true
    · rw [if_pos o, Nat.add_mul, Nat.one_mul]; omega
    · rw [if_neg o, h n (by omega) (by simpa using o)]; omega
def pa_S (op : Nat → Bool) (mn w : Nat → Nat) (nC : Nat) : Nat → Nat → (Nat → Nat) → (Nat → Nat) → Option (Nat × (Nat → Nat))
  | 0, _, L, G => some (pa_mx L nC, G)
  | n + 1, i, L, G => pa_L (fun c => if op c = true ∧ L c + w i ≤ mn c then pa_S op mn w nC n (i + 1) (pa_up L c (L c + w i)) (pa_up G i c) else none) 6 0
theorem pa_S_mx {op : Nat → Bool} {mn w : Nat → Nat} {nC : Nat} (ho : ∀ c, nC ≤ c → op c = false) : ∀ n i L G, pa_ge (pa_mx L nC) (pa_S op mn w nC n i L G) := by
  intro n
  induction n with
  | zero => intro i L G v a h; injection h with h; injection h with h1 h2; omega
  | succ n ih =>
    intro i L G
    refine pa_L_ge (fun c => ?_) 6 0
    split
    · rename_i h
      have hc : c < nC := by
        rcases Nat.lt_or_ge c nC with q | q
        · exact q
        · rw [ho c q] at h; exact absurd h.1 (by decide)
      intro v a e
      have := ih (i + 1) (pa_up L c (L c + w i)) (pa_up G i c) v a e
      rw [pa_mx_up (by omega) nC hc] at this
      omega
    · intro v a e; cases e
theorem pa_S_su {op : Nat → Bool} {mn w : Nat → Nat} {nC : Nat} (ho : ∀ c, nC ≤ c → op c = false) : ∀ n i L G, (∀ c, c < nC → op c = false → L c = 0) → ∀ v a, pa_S op mn w nC n i L G = some (v, a) → pa_su L nC + pa_sw w i n ≤ pa_co op nC * v := by
  intro n
  induction n with
  | zero => intro i L G hz v a h; injection h with h; injection h with h1 h2; rw [← h1]; exact pa_su_le nC hz
  | succ n ih =>
    intro i L G hz
    have key : ∀ u c v a, pa_L (fun c => if op c = true ∧ L c + w i ≤ mn c then pa_S op mn w nC n (i + 1) (pa_up L c (L c + w i)) (pa_up G i c) else none) u c = some (v, a) → pa_su L nC + pa_sw w i (n + 1) ≤ pa_co op nC * v := by
      intro u
      induction u with
      | zero => intro c v a e; cases e
      | succ u ihu =>
        intro c v a e
        have e1 : pa_b2 (if op c = true ∧ L c + w i ≤ mn c then pa_S op mn w nC n (i + 1) (pa_up L c (L c + w i)) (pa_up G i c) else none) (pa_L (fun c => if op c = true ∧ L c + w i ≤ mn c then pa_S op mn w nC n (i + 1) (pa_up L c (L c + w i)) (pa_up G i c) else none) u (c + 1)) = some (v, a) := e
        have hchild : ∀ v a, (if op c = true ∧ L c + w i ≤ mn c then pa_S op mn w nC n (i + 1) (pa_up L c (L c + w i)) (pa_up G i c) else none) = some (v, a) → pa_su L nC + pa_sw w i (n + 1) ≤ pa_co op nC * v := by
          intro v a h
          split at h
          · rename_i hh
            have hc : c < nC := by
              rcases Nat.lt_or_ge c nC with q | q
              · exact q
              · rw [ho c q] at hh; exact absurd hh.1 (by decide)
            have := ih (i + 1) _ _ (fun k hk hko => by
              rw [pa_upO (fun q => by rw [q, hh.1] at hko; exact absurd hko (by decide))]; exact hz k hk hko) v a h
            rw [pa_su_up nC hc] at this
            show pa_su L nC + (w i + pa_sw w (i + 1) n) ≤ _
            omega
          · cases h
        revert e1
        generalize (if op c = true ∧ L c + w i ≤ mn c then pa_S op mn w nC n (i + 1) (pa_up L c (L c + w i)) (pa_up G i c) else none) = X at hchild
        intro e1
        cases X with
        | none => exact ihu (c + 1) v a e1
        | some xa =>
          revert e1
          have ihu1 := ihu (c + 1)
          generalize pa_L (fun c => if op c = true ∧ L c + w i ≤ mn c then pa_S op mn w nC n (i + 1) (pa_up L c (L c + w i)) (pa_up G i c) else none) u (c + 1) = Y at ihu1
          intro e1
          cases Y with
          | none => exact hchild v a e1
          | some ya =>
            simp only [pa_b2] at e1
            split at e1
            · exact ihu1 v a e1
            · exact hchild v a e1
    exact key 6 0
def pa_fl (T o : Nat) : Nat := if o = 0 then 0 else (T + o - 1) / o
theorem pa_fl_le {T o v : Nat} (h : T ≤ o * v) : pa_fl T o ≤ v := by
  unfold pa_fl
  split
  · exact Nat.zero_le _
  · rename_i ho
    refine Nat.le_of_lt_succ ((Nat.div_lt_iff_lt_mul (by omega)).mpr ?_)
    rw [Nat.succ_mul, Nat.mul_comm v o]
    omega
theorem pa_S_le {op : Nat → Bool} {mn w : Nat → Nat} {nC M : Nat} (hm : ∀ c, mn c ≤ M) : ∀ n i L G, pa_mx L nC ≤ M → (∀ c, nC ≤ c → op c = false) → ∀ v a, pa_S op mn w nC n i L G = some (v, a) → v ≤ M := by
  intro n
  induction n with
  | zero => intro i L G h _ v a e; injection e with e; injection e with e1 e2; omega
  | succ n ih =>
    intro i L G h ho
    refine pa_L_le (fun c v a e => ?_) 6 0
    split at e
    · rename_i hh
      have hc : c < nC := by
        rcases Nat.lt_or_ge c nC with q | q
        · exact q
        · rw [ho c q] at hh; exact absurd hh.1 (by decide)
      refine ih (i + 1) _ _ ?_ ho v a e
      rw [pa_mx_up (by omega) nC hc]
      have := hm c
      omega
    · cases e
