/-! a call of the class, then the model's: both answer alike, and the relation holds behind -/
theorem R_cl {nC nB : Nat} {mi mj m : MemI} {ml mlj ml' : MemL} (h : k_R nC nB mi ml mj mlj) (h1 : ∀ kk qq, k_isM kk = false → m kk qq = mi kk qq) (h2 : ∀ s i, ml' (9, 0, s) i = ml (9, 0, s) i) : k_R nC nB m ml' mj mlj := by
  obtain ⟨a1, a2, a2b, a3, a4, a5, a6, a7, a8, a9⟩ := h
  refine ⟨CR_ext a1 ⟨fun i q _ => h1 _ _ rfl, fun i q _ => h1 _ _ rfl, fun q _ => h1 _ _ rfl⟩ ⟨fun _ _ _ _ => rfl, fun _ _ => rfl⟩, nums_ext a2 (fun g i => h1 _ _ rfl) (fun g i => h1 _ _ rfl), fun i hi => ?_, im_ext a3 (h1 _ _ rfl) ⟨fun i q _ => h1 _ _ rfl, fun i q _ => h1 _ _ rfl, fun q _ => h1 _ _ rfl⟩ rfl (fun _ => rfl), fun j x y => (h1 _ _ rfl).trans (a4 j x y), (h1 _ _ rfl).trans a5, tc_ext a6 (h1 _ _ rfl) (fun i => h1 _ _ rfl) rfl (fun _ => rfl), fun s hs => sh_ext (a7 s hs) (Nat.le_refl _) (fun q => h1 _ _ rfl) rfl rfl rfl rfl, fun s hs i hi => (h2 s i).trans (a8 s hs i hi), a9⟩
  rw [h1 (1, 2, i) 1 rfl, h1 (1, 2, i) 2 rfl, h1 (0, 2, i) 1 rfl, h1 (0, 2, i) 2 rfl]; exact a2b i hi
theorem R_md {nC nB : Nat} {mi mj m' : MemI} {ml mlj mlj' : MemL} (h : k_R nC nB mi ml mj mlj) (h1 : ∀ kk qq, k_isM kk = true → m' kk qq = mj kk qq) (h2 : ∀ i, mlj' (9, 1, 0) i = mlj (9, 1, 0) i) : k_R nC nB mi ml m' mlj' := by
  obtain ⟨a1, a2, a2b, a3, a4, a5, a6, a7, a8, a9⟩ := h
  have k8 : ∀ n j, n < 100 → m' (8, n, 0) j = mj (8, n, 0) j := fun n j hn => h1 _ _ (k_isM8 hn)
  refine ⟨CR_ext a1 sC_rf ⟨fun n j x y => k8 n j (by omega), fun q _ => h1 _ _ rfl⟩, a2, a2b, im_ext a3 rfl sC_rf (h1 _ _ rfl) (fun p => k8 34 p (by decide)), fun j x y => (a4 j x y).trans (k8 5 j (by decide)).symm, a5.trans (h1 _ _ rfl).symm, tc_ext a6 rfl (fun _ => rfl) (h1 _ _ rfl) (fun i => k8 50 i (by decide)), fun s hs => sh_ext (a7 s hs) (Nat.le_refl _) (fun q => rfl) (k8 18 s (by decide)) (k8 19 s (by decide)) (k8 20 s (by decide)) (k8 21 s (by decide)), fun s hs i hi => (a8 s hs i hi).trans (h2 _).symm, tb_ext a9 (fun n j x y => k8 n j (by omega))⟩
def k_J (mi : MemI) (ml : MemL) : Prop := ∃ nC nB, k_R nC nB mi ml mi ml
theorem r1_show {nC nB : Nat} {mi : MemI} {ml : MemL} (h : k_R nC nB mi ml mi ml) (a0 a1 : Int32) : k_R nC nB mi ml (f_X6_show mi a0 a1).2 ml := R_md h (fun kk qq hk => fm_X6_show hk) (fun _ => rfl)
theorem j_show {nC nB : Nat} {mi : MemI} {ml : MemL} (h : k_R nC nB mi ml mi ml) (a0 a1 : Int32) : (f_X6_show mi a0 a1).1 = (f_X7_show (f_X6_show mi a0 a1).2 a0 a1).1 ∧ k_J (f_X7_show (f_X6_show mi a0 a1).2 a0 a1).2 ml := by
  obtain ⟨e, R⟩ := q_show (r1_show h a0 a1) a0 a1
  exact ⟨e, _, _, R_cl R (fun kk qq hk => fc_X7_show hk) (fun _ _ => rfl)⟩
theorem r1_citizen {nC nB : Nat} {mi : MemI} {ml : MemL} (h : k_R nC nB mi ml mi ml) (a0 a1 a2 a3 : Int32) : k_R nC nB mi ml (f_X6_citizen mi a0 a1 a2 a3).2 ml := R_md h (fun kk qq hk => fm_X6_citizen hk) (fun _ => rfl)
theorem j_citizen {nC nB : Nat} {mi : MemI} {ml : MemL} (h : k_R nC nB mi ml mi ml) (a0 a1 a2 a3 : Int32) : (f_X6_citizen mi a0 a1 a2 a3).1 = (f_X7_citizen (f_X6_citizen mi a0 a1 a2 a3).2 a0 a1 a2 a3).1 ∧ k_J (f_X7_citizen (f_X6_citizen mi a0 a1 a2 a3).2 a0 a1 a2 a3).2 ml := by
  obtain ⟨_, e, R⟩ := q_citizen (r1_citizen h a0 a1 a2 a3) a0 a1 a2 a3
  exact ⟨e, _, _, R_cl R (fun kk qq hk => fc_X7_citizen hk) (fun _ _ => rfl)⟩
theorem r1_beggar {nC nB : Nat} {mi : MemI} {ml : MemL} (h : k_R nC nB mi ml mi ml) (a0 a1 : Int32) : k_R nC nB mi ml (f_X6_beggar mi a0 a1).2 ml := R_md h (fun kk qq hk => fm_X6_beggar hk) (fun _ => rfl)
theorem j_beggar {nC nB : Nat} {mi : MemI} {ml : MemL} (h : k_R nC nB mi ml mi ml) (a0 a1 : Int32) : (f_X6_beggar mi a0 a1).1 = (f_X7_beggar (f_X6_beggar mi a0 a1).2 a0 a1).1 ∧ k_J (f_X7_beggar (f_X6_beggar mi a0 a1).2 a0 a1).2 ml := by
  obtain ⟨_, e, R⟩ := q_beggar (r1_beggar h a0 a1) a0 a1
  exact ⟨e, _, _, R_cl R (fun kk qq hk => fc_X7_beggar hk) (fun _ _ => rfl)⟩
theorem r1_tell {nC nB : Nat} {mi : MemI} {ml : MemL} (h : k_R nC nB mi ml mi ml) (a0 a1 a2 : Int32) : k_R nC nB mi ml (f_X6_tell mi a0 a1 a2).2 ml := R_md h (fun kk qq hk => fm_X6_tell hk) (fun _ => rfl)
theorem j_tell {nC nB : Nat} {mi : MemI} {ml : MemL} (h : k_R nC nB mi ml mi ml) (a0 a1 a2 : Int32) : (f_X6_tell mi a0 a1 a2).1 = (f_X7_tell (f_X6_tell mi a0 a1 a2).2 a0 a1 a2).1 ∧ k_J (f_X7_tell (f_X6_tell mi a0 a1 a2).2 a0 a1 a2).2 ml := by
  obtain ⟨e, R⟩ := q_tell (r1_tell h a0 a1 a2) a0 a1 a2
  exact ⟨e, _, _, R_cl R (fun kk qq hk => fc_X7_tell hk) (fun _ _ => rfl)⟩
theorem r1_citizenOf {nC nB : Nat} {mi : MemI} {ml : MemL} (h : k_R nC nB mi ml mi ml) (a0 a1 : Int32) : k_R nC nB mi ml (f_X6_citizenOf mi a0 a1).2 ml := R_md h (fun kk qq hk => fm_X6_citizenOf hk) (fun _ => rfl)
theorem j_citizenOf {nC nB : Nat} {mi : MemI} {ml : MemL} (h : k_R nC nB mi ml mi ml) (a0 a1 : Int32) : (f_X6_citizenOf mi a0 a1).1 = (f_X7_citizenOf (f_X6_citizenOf mi a0 a1).2 a0 a1).1 ∧ k_J (f_X7_citizenOf (f_X6_citizenOf mi a0 a1).2 a0 a1).2 ml := by
  obtain ⟨e, R⟩ := q_citizenOf (r1_citizenOf h a0 a1) a0 a1
  exact ⟨e, _, _, R_cl R (fun kk qq hk => fc_X7_citizenOf hk) (fun _ _ => rfl)⟩
theorem r1_beggarOf {nC nB : Nat} {mi : MemI} {ml : MemL} (h : k_R nC nB mi ml mi ml) (a0 a1 : Int32) : k_R nC nB mi ml (f_X6_beggarOf mi a0 a1).2 ml := R_md h (fun kk qq hk => fm_X6_beggarOf hk) (fun _ => rfl)
theorem j_beggarOf {nC nB : Nat} {mi : MemI} {ml : MemL} (h : k_R nC nB mi ml mi ml) (a0 a1 : Int32) : (f_X6_beggarOf mi a0 a1).1 = (f_X7_beggarOf (f_X6_beggarOf mi a0 a1).2 a0 a1).1 ∧ k_J (f_X7_beggarOf (f_X6_beggarOf mi a0 a1).2 a0 a1).2 ml := by
  obtain ⟨e, R⟩ := q_beggarOf (r1_beggarOf h a0 a1) a0 a1
  exact ⟨e, _, _, R_cl R (fun kk qq hk => fc_X7_beggarOf hk) (fun _ _ => rfl)⟩
theorem r1_says {nC nB : Nat} {mi : MemI} {ml : MemL} (h : k_R nC nB mi ml mi ml) (a0 a1 : Int32) : k_R nC nB mi ml (f_X6_says mi a0 a1).2 ml := R_md h (fun kk qq hk => fm_X6_says hk) (fun _ => rfl)
theorem j_says {nC nB : Nat} {mi : MemI} {ml : MemL} (h : k_R nC nB mi ml mi ml) (a0 a1 : Int32) : (f_X6_says mi a0 a1).1 = (f_X7_says (f_X6_says mi a0 a1).2 a0 a1).1 ∧ k_J (f_X7_says (f_X6_says mi a0 a1).2 a0 a1).2 ml := by
  obtain ⟨e, R⟩ := q_says (r1_says h a0 a1) a0 a1
  exact ⟨e, _, _, R_cl R (fun kk qq hk => fc_X7_says hk) (fun _ _ => rfl)⟩
theorem r1_picks {nC nB : Nat} {mi : MemI} {ml : MemL} (h : k_R nC nB mi ml mi ml) (a0 : Int32) : k_R nC nB mi ml (f_X6_picks mi a0).2 ml := R_md h (fun kk qq hk => fm_X6_picks hk) (fun _ => rfl)
theorem j_picks {nC nB : Nat} {mi : MemI} {ml : MemL} (h : k_R nC nB mi ml mi ml) (a0 : Int32) : (f_X6_picks mi a0).1 = (f_X7_picks (f_X6_picks mi a0).2 a0 nC nB).1 ∧ k_J (f_X7_picks (f_X6_picks mi a0).2 a0 nC nB).2 ml := by
  obtain ⟨e, R⟩ := q_picks (r1_picks h a0) a0
  exact ⟨e, _, _, R_cl R (fun kk qq hk => fc_X7_picks hk) (fun _ _ => rfl)⟩
theorem r1_kept {nC nB : Nat} {mi : MemI} {ml : MemL} (h : k_R nC nB mi ml mi ml) : k_R nC nB mi ml (f_X6_kept mi).2 ml := R_md h (fun kk qq hk => fm_X6_kept hk) (fun _ => rfl)
theorem j_kept {nC nB : Nat} {mi : MemI} {ml : MemL} (h : k_R nC nB mi ml mi ml) : (f_X6_kept mi).1 = (f_X7_kept (f_X6_kept mi).2 nC nB).1 ∧ k_J (f_X7_kept (f_X6_kept mi).2 nC nB).2 ml := by
  obtain ⟨e, R⟩ := q_kept (r1_kept h)
  exact ⟨e, _, _, R_cl R (fun kk qq hk => fc_X7_kept hk) (fun _ _ => rfl)⟩
theorem r1_picked {nC nB : Nat} {mi : MemI} {ml : MemL} (h : k_R nC nB mi ml mi ml) (a0 a1 : Int32) : k_R nC nB mi ml (f_X6_picked mi a0 a1).2 ml := R_md h (fun kk qq hk => fm_X6_picked hk) (fun _ => rfl)
theorem j_picked {nC nB : Nat} {mi : MemI} {ml : MemL} (h : k_R nC nB mi ml mi ml) (a0 a1 : Int32) : (f_X6_picked mi a0 a1).1 = (f_X7_picked (f_X6_picked mi a0 a1).2 a0 a1 nC nB).1 ∧ k_J (f_X7_picked (f_X6_picked mi a0 a1).2 a0 a1 nC nB).2 ml := by
  obtain ⟨e, R⟩ := q_picked (r1_picked h a0 a1) a0 a1
  exact ⟨e, _, _, R_cl R (fun kk qq hk => fc_X7_picked hk) (fun _ _ => rfl)⟩
theorem r1_wear {nC nB : Nat} {mi : MemI} {ml : MemL} (h : k_R nC nB mi ml mi ml) (a0 a1 : Int32) : k_R nC nB mi ml (f_X6_wear mi a0 a1).2 ml := R_md h (fun kk qq hk => fm_X6_wear hk) (fun _ => rfl)
theorem j_wear {nC nB : Nat} {mi : MemI} {ml : MemL} (h : k_R nC nB mi ml mi ml) (a0 a1 : Int32) : (f_X6_wear mi a0 a1).1 = (f_X7_wear (f_X6_wear mi a0 a1).2 a0 a1 nC nB).1 ∧ k_J (f_X7_wear (f_X6_wear mi a0 a1).2 a0 a1 nC nB).2 ml := by
  obtain ⟨e, R⟩ := q_wear (r1_wear h a0 a1) a0 a1
  exact ⟨e, _, _, R_cl R (fun kk qq hk => fc_X7_wear hk) (fun _ _ => rfl)⟩
theorem r1_unkept {nC nB : Nat} {mi : MemI} {ml : MemL} (h : k_R nC nB mi ml mi ml) (a0 a1 : Int32) : k_R nC nB mi ml (f_X6_unkept mi a0 a1).2 ml := R_md h (fun kk qq hk => fm_X6_unkept hk) (fun _ => rfl)
theorem j_unkept {nC nB : Nat} {mi : MemI} {ml : MemL} (h : k_R nC nB mi ml mi ml) (a0 a1 : Int32) : (f_X6_unkept mi a0 a1).1 = (f_X7_unkept (f_X6_unkept mi a0 a1).2 a0 a1 nC nB).1 ∧ k_J (f_X7_unkept (f_X6_unkept mi a0 a1).2 a0 a1 nC nB).2 ml := by
  obtain ⟨e, R⟩ := q_unkept (r1_unkept h a0 a1) a0 a1
  exact ⟨e, _, _, R_cl R (fun kk qq hk => fc_X7_unkept hk) (fun _ _ => rfl)⟩
theorem r1_parting {nC nB : Nat} {mi : MemI} {ml : MemL} (h : k_R nC nB mi ml mi ml) (a0 : Int32) : k_R nC nB mi ml (f_X6_parting mi a0).2 ml := R_md h (fun kk qq hk => fm_X6_parting hk) (fun _ => rfl)
theorem j_parting {nC nB : Nat} {mi : MemI} {ml : MemL} (h : k_R nC nB mi ml mi ml) (a0 : Int32) : (f_X6_parting mi a0).1 = (f_X7_parting (f_X6_parting mi a0).2 a0 nC nB).1 ∧ k_J (f_X7_parting (f_X6_parting mi a0).2 a0 nC nB).2 ml := by
  obtain ⟨e, R⟩ := q_parting (r1_parting h a0) a0
  exact ⟨e, _, _, R_cl R (fun kk qq hk => fc_X7_parting hk) (fun _ _ => rfl)⟩
theorem r1_rests {nC nB : Nat} {mi : MemI} {ml : MemL} (h : k_R nC nB mi ml mi ml) (a0 : Int32) : k_R nC nB mi ml (f_X6_rests mi a0).2 ml := R_md h (fun kk qq hk => fm_X6_rests hk) (fun _ => rfl)
theorem j_rests {nC nB : Nat} {mi : MemI} {ml : MemL} (h : k_R nC nB mi ml mi ml) (a0 : Int32) : (f_X6_rests mi a0).1 = (f_X7_rests (f_X6_rests mi a0).2 a0 nC nB).1 ∧ k_J (f_X7_rests (f_X6_rests mi a0).2 a0 nC nB).2 ml := by
  obtain ⟨e, R⟩ := q_rests (r1_rests h a0) a0
  exact ⟨e, _, _, R_cl R (fun kk qq hk => fc_X7_rests hk) (fun _ _ => rfl)⟩
theorem r1_shun {nC nB : Nat} {mi : MemI} {ml : MemL} (h : k_R nC nB mi ml mi ml) (a0 a1 : Int32) : k_R nC nB mi ml (f_X6_shun mi a0 a1).2 ml := R_md h (fun kk qq hk => fm_X6_shun hk) (fun _ => rfl)
theorem j_shun {nC nB : Nat} {mi : MemI} {ml : MemL} (h : k_R nC nB mi ml mi ml) (a0 a1 : Int32) : (f_X6_shun mi a0 a1).1 = (f_X7_shun (f_X6_shun mi a0 a1).2 a0 a1 nC nB).1 ∧ k_J (f_X7_shun (f_X6_shun mi a0 a1).2 a0 a1 nC nB).2 ml := by
  obtain ⟨e, R⟩ := q_shun (r1_shun h a0 a1) a0 a1
  exact ⟨e, _, _, R_cl R (fun kk qq hk => fc_X7_shun hk) (fun _ _ => rfl)⟩
theorem r1_rules {nC nB : Nat} {mi : MemI} {ml : MemL} (h : k_R nC nB mi ml mi ml) (a0 a1 : Int32) : k_R nC nB mi ml (f_X6_rules mi a0 a1).2 ml := R_md h (fun kk qq hk => fm_X6_rules hk) (fun _ => rfl)
theorem j_rules {nC nB : Nat} {mi : MemI} {ml : MemL} (h : k_R nC nB mi ml mi ml) (a0 a1 : Int32) : (f_X6_rules mi a0 a1).1 = (f_X7_rules (f_X6_rules mi a0 a1).2 a0 a1 nC nB).1 ∧ k_J (f_X7_rules (f_X6_rules mi a0 a1).2 a0 a1 nC nB).2 ml := by
  obtain ⟨e, R⟩ := q_rules (r1_rules h a0 a1) a0 a1
  exact ⟨e, _, _, R_cl R (fun kk qq hk => fc_X7_rules hk) (fun _ _ => rfl)⟩
theorem r1_hide {nC nB : Nat} {mi : MemI} {ml : MemL} (h : k_R nC nB mi ml mi ml) : k_R nC nB mi ml (f_X6_hide mi).2 ml := R_md h (fun kk qq hk => fm_X6_hide hk) (fun _ => rfl)
theorem j_hide {nC nB : Nat} {mi : MemI} {ml : MemL} (h : k_R nC nB mi ml mi ml) : (f_X6_hide mi).1 = (f_X7_hide (f_X6_hide mi).2 nC nB).1 ∧ k_J (f_X7_hide (f_X6_hide mi).2 nC nB).2 ml := by
  obtain ⟨e, R⟩ := q_hide (r1_hide h)
  exact ⟨e, _, _, R_cl R (fun kk qq hk => fc_X7_hide hk) (fun _ _ => rfl)⟩
theorem r1_lose {nC nB : Nat} {mi : MemI} {ml : MemL} (h : k_R nC nB mi ml mi ml) (a0 : Int32) : k_R nC nB mi ml (f_X6_lose mi a0).2 ml := R_md h (fun kk qq hk => fm_X6_lose hk) (fun _ => rfl)
theorem j_lose {nC nB : Nat} {mi : MemI} {ml : MemL} (h : k_R nC nB mi ml mi ml) (a0 : Int32) : (f_X6_lose mi a0).1 = (f_X7_lose (f_X6_lose mi a0).2 a0 nC nB).1 ∧ k_J (f_X7_lose (f_X6_lose mi a0).2 a0 nC nB).2 ml := by
  obtain ⟨e, R⟩ := q_lose (r1_lose h a0) a0
  exact ⟨e, _, _, R_cl R (fun kk qq hk => fc_X7_lose hk) (fun _ _ => rfl)⟩
theorem r1_best {nC nB : Nat} {mi : MemI} {ml : MemL} (h : k_R nC nB mi ml mi ml) : k_R nC nB mi ml (f_X6_best mi).2 ml := R_md h (fun kk qq hk => fm_X6_best hk) (fun _ => rfl)
theorem j_best {nC nB : Nat} {mi : MemI} {ml : MemL} (h : k_R nC nB mi ml mi ml) : (f_X6_best mi).1 = (f_X7_best (f_X6_best mi).2 nC nB).1 ∧ k_J (f_X7_best (f_X6_best mi).2 nC nB).2 ml := by
  obtain ⟨e, R⟩ := q_best (r1_best h)
  exact ⟨e, _, _, R_cl R (fun kk qq hk => fc_X7_best hk) (fun _ _ => rfl)⟩
theorem r1_mornings {nC nB : Nat} {mi : MemI} {ml : MemL} (h : k_R nC nB mi ml mi ml) (a0 : Int32) : k_R nC nB mi ml (f_X6_mornings mi a0).2 ml := R_md h (fun kk qq hk => fm_X6_mornings hk) (fun _ => rfl)
theorem j_mornings {nC nB : Nat} {mi : MemI} {ml : MemL} (h : k_R nC nB mi ml mi ml) (a0 : Int32) : (f_X6_mornings mi a0).1 = (f_X7_mornings (f_X6_mornings mi a0).2 a0 nC nB).1 ∧ k_J (f_X7_mornings (f_X6_mornings mi a0).2 a0 nC nB).2 ml := by
  obtain ⟨e, R⟩ := q_mornings (r1_mornings h a0) a0
  exact ⟨e, _, _, R_cl R (fun kk qq hk => fc_X7_mornings hk) (fun _ _ => rfl)⟩
theorem r1_winters {nC nB : Nat} {mi : MemI} {ml : MemL} (h : k_R nC nB mi ml mi ml) (a0 : Int32) : k_R nC nB mi ml (f_X6_winters mi a0).2 ml := R_md h (fun kk qq hk => fm_X6_winters hk) (fun _ => rfl)
theorem j_winters {nC nB : Nat} {mi : MemI} {ml : MemL} (h : k_R nC nB mi ml mi ml) (a0 : Int32) : (f_X6_winters mi a0).1 = (f_X7_winters (f_X6_winters mi a0).2 a0 nC nB).1 ∧ k_J (f_X7_winters (f_X6_winters mi a0).2 a0 nC nB).2 ml := by
  obtain ⟨e, R⟩ := q_winters (r1_winters h a0) a0
  exact ⟨e, _, _, R_cl R (fun kk qq hk => fc_X7_winters hk) (fun _ _ => rfl)⟩
theorem r1_seed {nC nB : Nat} {mi : MemI} {ml : MemL} (h : k_R nC nB mi ml mi ml) (a0 : Int32) : k_R nC nB mi ml (f_X6_seed mi a0).2 ml := R_md h (fun kk qq hk => fm_X6_seed hk) (fun _ => rfl)
theorem j_seed {nC nB : Nat} {mi : MemI} {ml : MemL} (h : k_R nC nB mi ml mi ml) (a0 : Int32) : (f_X6_seed mi a0).1 = (f_X7_seed (f_X6_seed mi a0).2 a0).1 ∧ k_J (f_X7_seed (f_X6_seed mi a0).2 a0).2 ml := by
  obtain ⟨e, R⟩ := q_seed (r1_seed h a0) a0
  exact ⟨e, _, _, R_cl R (fun kk qq hk => fc_X7_seed hk) (fun _ _ => rfl)⟩
theorem r1_act {nC nB : Nat} {mi : MemI} {ml : MemL} (h : k_R nC nB mi ml mi ml) (a0 a1 a2 : Int32) : k_R nC nB mi ml (f_X6_act mi a0 a1 a2).2 ml := R_md h (fun kk qq hk => fm_X6_act hk) (fun _ => rfl)
theorem j_act {nC nB : Nat} {mi : MemI} {ml : MemL} (h : k_R nC nB mi ml mi ml) (a0 a1 a2 : Int32) : (f_X6_act mi a0 a1 a2).1 = (f_X7_act (f_X6_act mi a0 a1 a2).2 a0 a1 a2).1 ∧ k_J (f_X7_act (f_X6_act mi a0 a1 a2).2 a0 a1 a2).2 ml := by
  obtain ⟨e, R⟩ := q_act (r1_act h a0 a1 a2) a0 a1 a2
  exact ⟨e, _, _, R_cl R (fun kk qq hk => fc_X7_act hk) (fun _ _ => rfl)⟩
theorem r1_image {nC nB : Nat} {mi : MemI} {ml : MemL} (h : k_R nC nB mi ml mi ml) : k_R nC nB mi ml (f_X6_image mi).2 ml := R_md h (fun kk qq hk => fm_X6_image hk) (fun _ => rfl)
theorem j_image {nC nB : Nat} {mi : MemI} {ml : MemL} (h : k_R nC nB mi ml mi ml) : (f_X6_image mi).1 = (f_X7_image (f_X6_image mi).2).1 ∧ k_J (f_X7_image (f_X6_image mi).2).2 ml := by
  obtain ⟨e, R⟩ := q_image (r1_image h)
  exact ⟨e, _, _, R_cl R (fun kk qq hk => fc_X7_image hk) (fun _ _ => rfl)⟩
theorem r1_post {nC nB : Nat} {mi : MemI} {ml : MemL} (h : k_R nC nB mi ml mi ml) (a0 a1 : Int32) : k_R nC nB mi ml (f_X6_post mi a0 a1).2 ml := R_md h (fun kk qq hk => fm_X6_post hk) (fun _ => rfl)
theorem j_post {nC nB : Nat} {mi : MemI} {ml : MemL} (h : k_R nC nB mi ml mi ml) (a0 a1 : Int32) (his : a1 = 0 ∨ a1 = 1) : (f_X6_post mi a0 a1).1 = (f_X7_post (f_X6_post mi a0 a1).2 a0 a1).1 ∧ k_J (f_X7_post (f_X6_post mi a0 a1).2 a0 a1).2 ml := by
  obtain ⟨e, R⟩ := q_post (r1_post h a0 a1) a0 a1 his
  exact ⟨e, _, _, R_cl R (fun kk qq hk => fc_X7_post hk) (fun _ _ => rfl)⟩
theorem r1_judge {nC nB : Nat} {mi : MemI} {ml : MemL} (h : k_R nC nB mi ml mi ml) (a0 a1 : Int32) : k_R nC nB mi ml (f_X6_judge mi ml a0 a1).2 ml := R_md h (fun kk qq hk => fm_X6_judge hk) (fun _ => rfl)
theorem j_judge {nC nB : Nat} {mi : MemI} {ml : MemL} (h : k_R nC nB mi ml mi ml) (a0 a1 : Int32) : (f_X6_judge mi ml a0 a1).1 = (f_X7_judge (f_X6_judge mi ml a0 a1).2 ml a0 a1 nC nB).1 ∧ k_J (f_X7_judge (f_X6_judge mi ml a0 a1).2 ml a0 a1 nC nB).2 ml := by
  obtain ⟨e, R⟩ := q_judge (r1_judge h a0 a1) a0 a1
  exact ⟨e, _, _, R_cl R (fun kk qq hk => fc_X7_judge hk) (fun _ _ => rfl)⟩
theorem r1_city {nC nB : Nat} {mi : MemI} {ml : MemL} (h : k_R nC nB mi ml mi ml) (a0 : Int32) : k_R nC nB mi ml (f_X6_city mi ml a0).2 ml := R_md h (fun kk qq hk => fm_X6_city hk) (fun _ => rfl)
theorem j_city {nC nB : Nat} {mi : MemI} {ml : MemL} (h : k_R nC nB mi ml mi ml) (a0 : Int32) : (f_X6_city mi ml a0).1 = (f_X7_city (f_X6_city mi ml a0).2 ml a0).1 ∧ k_J (f_X7_city (f_X6_city mi ml a0).2 ml a0).2 ml := by
  obtain ⟨_, _, e, R⟩ := q_city (r1_city h a0) a0
  exact ⟨e, _, _, R_cl R (fun kk qq hk => fc_X7_city hk) (fun _ _ => rfl)⟩
theorem r1_restore {nC nB : Nat} {mi : MemI} {ml : MemL} (h : k_R nC nB mi ml mi ml) : k_R nC nB mi ml (f_X6_restore mi).2 ml := R_md h (fun kk qq hk => fm_X6_restore hk) (fun _ => rfl)
theorem j_restore {nC nB : Nat} {mi : MemI} {ml : MemL} (h : k_R nC nB mi ml mi ml) : (f_X6_restore mi).1 = (f_X7_restore (f_X6_restore mi).2).1 ∧ k_J (f_X7_restore (f_X6_restore mi).2).2 ml := by
  obtain ⟨_, _, e, R⟩ := q_restore (r1_restore h)
  exact ⟨e, _, _, R_cl R (fun kk qq hk => fc_X7_restore hk) (fun _ _ => rfl)⟩
theorem r1_row {nC nB : Nat} {mi : MemI} {ml : MemL} (h : k_R nC nB mi ml mi ml) (a0 a1 a2 : Int32) : k_R nC nB mi ml (f_X6_row mi ml a0 a1 a2).2.1 (f_X6_row mi ml a0 a1 a2).2.2 := R_md h (fun kk qq hk => fm_X6_row hk) (fun _ => fl_X6_row (show (1 : Nat) ≠ 0 by decide))
theorem j_row {nC nB : Nat} {mi : MemI} {ml : MemL} (h : k_R nC nB mi ml mi ml) (a0 a1 a2 : Int32) : (f_X6_row mi ml a0 a1 a2).1 = (f_X7_row (f_X6_row mi ml a0 a1 a2).2.1 (f_X6_row mi ml a0 a1 a2).2.2 a0 a1 a2).1 ∧ k_J (f_X7_row (f_X6_row mi ml a0 a1 a2).2.1 (f_X6_row mi ml a0 a1 a2).2.2 a0 a1 a2).2.1 (f_X7_row (f_X6_row mi ml a0 a1 a2).2.1 (f_X6_row mi ml a0 a1 a2).2.2 a0 a1 a2).2.2 := by
  obtain ⟨e, R⟩ := q_row (r1_row h a0 a1 a2) a0 a1 a2
  exact ⟨e, _, _, R_cl R (fun kk qq hk => fc_X7_row hk) (fun _ _ => fl_X7_row (show (0 : Nat) ≠ 1 by decide))⟩
theorem r1_set {nC nB : Nat} {mi : MemI} {ml : MemL} (h : k_R nC nB mi ml mi ml) (a0 a1 : Int32) (a2 : Int64) : k_R nC nB mi ml (f_X6_set mi ml a0 a1 a2).2.1 (f_X6_set mi ml a0 a1 a2).2.2 := R_md h (fun kk qq hk => fm_X6_set hk) (fun _ => fl_X6_set (show (1 : Nat) ≠ 0 by decide))
theorem j_set {nC nB : Nat} {mi : MemI} {ml : MemL} (h : k_R nC nB mi ml mi ml) (a0 a1 : Int32) (a2 : Int64) : (f_X6_set mi ml a0 a1 a2).1 = (f_X7_set (f_X6_set mi ml a0 a1 a2).2.1 (f_X6_set mi ml a0 a1 a2).2.2 a0 a1 a2).1 ∧ k_J (f_X7_set (f_X6_set mi ml a0 a1 a2).2.1 (f_X6_set mi ml a0 a1 a2).2.2 a0 a1 a2).2.1 (f_X7_set (f_X6_set mi ml a0 a1 a2).2.1 (f_X6_set mi ml a0 a1 a2).2.2 a0 a1 a2).2.2 := by
  obtain ⟨e, R⟩ := q_set (r1_set h a0 a1 a2) a0 a1 a2
  exact ⟨e, _, _, R_cl R (fun kk qq hk => fc_X7_set hk) (fun _ _ => fl_X7_set (show (0 : Nat) ≠ 1 by decide))⟩
theorem r1_copy {nC nB : Nat} {mi : MemI} {ml : MemL} (h : k_R nC nB mi ml mi ml) (a0 a1 a2 a3 a4 : Int32) : k_R nC nB mi ml (f_X6_copy mi ml a0 a1 a2 a3 a4).2.1 (f_X6_copy mi ml a0 a1 a2 a3 a4).2.2 := R_md h (fun kk qq hk => fm_X6_copy hk) (fun _ => fl_X6_copy (show (1 : Nat) ≠ 0 by decide))
theorem j_copy {nC nB : Nat} {mi : MemI} {ml : MemL} (h : k_R nC nB mi ml mi ml) (a0 a1 a2 a3 a4 : Int32) : (f_X6_copy mi ml a0 a1 a2 a3 a4).1 = (f_X7_copy (f_X6_copy mi ml a0 a1 a2 a3 a4).2.1 (f_X6_copy mi ml a0 a1 a2 a3 a4).2.2 a0 a1 a2 a3 a4).1 ∧ k_J (f_X7_copy (f_X6_copy mi ml a0 a1 a2 a3 a4).2.1 (f_X6_copy mi ml a0 a1 a2 a3 a4).2.2 a0 a1 a2 a3 a4).2.1 (f_X7_copy (f_X6_copy mi ml a0 a1 a2 a3 a4).2.1 (f_X6_copy mi ml a0 a1 a2 a3 a4).2.2 a0 a1 a2 a3 a4).2.2 := by
  obtain ⟨e, R⟩ := q_copy (r1_copy h a0 a1 a2 a3 a4) a0 a1 a2 a3 a4
  exact ⟨e, _, _, R_cl R (fun kk qq hk => fc_X7_copy hk) (fun _ _ => fl_X7_copy (show (0 : Nat) ≠ 1 by decide) (show (0 : Nat) ≠ 2 by decide))⟩
