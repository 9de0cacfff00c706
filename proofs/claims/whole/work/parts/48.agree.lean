/-! the reference's squares and the class's (pure) -/
def Ag (s b : Nat → Nat) : Prop := ∀ i, i < 25 → s i = b i
theorem Ag.up {s b : Nat → Nat} (h : Ag s b) (k v : Nat) : Ag (up s k v) (up b k v) := by
  intro i hi
  by_cases e : i = k
  · subst e; rw [up_at, up_at]
  · rw [up_ne _ e, up_ne _ e]; exact h i hi
theorem Ag.lt {s b : Nat → Nat} (h : Ag s b) (hb : ∀ i, b i < 8) : ∀ i, i < 25 → s i < 8 := fun i hi => by rw [h i hi]; exact hb i
theorem Ag.af {s b : Nat → Nat} (h : Ag s b) {i : Nat} (hi : i < 25) (j : Nat) : Ag (aft s i j) (aft b i j) := by
  unfold aft
  rw [h i hi]
  exact (h.up i 0).up j (b i)
theorem awI_ag {s b : Nat → Nat} (h : Ag s b) {i d f : Nat} (hi : i < 25) (hd : d < 16) (hf : f < 6) : awI s i d f = awI b i d f := by
  unfold awI
  cases e : posM i d f with
  | none => rfl
  | some q => simp only []; rw [h q (posM_lt hi hd hf e)]
theorem fsD_ag {s b : Nat → Nat} (h : Ag s b) {i d : Nat} (hi : i < 25) (hd : d < 16) : ∀ n f : Nat, f + n ≤ 6 → fsD s i d n f = fsD b i d n f
  | 0, f, _ => rfl
  | n + 1, f, hf => by
    unfold fsD
    cases e : posM i d f with
    | none => rfl
    | some q =>
      simp only []
      rw [h q (posM_lt hi hd (by omega) e), fsD_ag h hi hd n (f + 1) (by omega)]
theorem fst_ag {s b : Nat → Nat} (h : Ag s b) {i d : Nat} (hi : i < 25) (hd : d < 16) : fst s i d = fst b i d := fsD_ag h hi hd 5 1 (by omega)
theorem fsK_ag {s b : Nat → Nat} (h : Ag s b) {i d : Nat} (hi : i < 25) (hd : d < 16) : fsK s i d = fsK b i d := by
  unfold fsK
  rw [fst_ag h hi hd]
  by_cases z : fst b i d = 0
  · rw [if_pos z, if_pos z]
  · rw [if_neg z, if_neg z]
    have := fst_le b i d
    cases e : posM i d (fst b i d) with
    | none => rfl
    | some q => simp only []; rw [h q (posM_lt hi hd this e)]
theorem attS {s b : Nat → Nat} (h : Ag s b) (hb : ∀ i, b i < 8) {i : Nat} (hi : i < 25) : attM s i = lineN b i := by
  rw [← attM_eq (fun i _ => hb i) hi]
  unfold attM
  refine cnt_congr fun k hk => ?_
  unfold mmS metM
  have hle : dirO (k / 5) (k % 5) ≤ 16 := dirO_le ⟨k, hk⟩
  generalize dirO (k / 5) (k % 5) = d at hle
  by_cases h8 : d < 8
  · rw [if_pos h8, if_pos h8, fsK_ag h hi (by omega), fst_ag h hi (by omega)]
  · rw [if_neg h8, if_neg h8]
    by_cases h16 : d < 16
    · rw [if_pos h16, if_pos h16, awI_ag h hi h16 (by omega)]
    · rw [if_neg h16, if_neg h16]
theorem atS {s b : Nat → Nat} (h : Ag s b) (hb : ∀ i, b i < 8) {i j : Nat} (hi : i < 25) (hj : j < 25) : atM s i j = reachP b i j := by
  rw [← atM_eq (fun i _ => hb i) hi hj]
  unfold atM
  rw [h i hi]
  by_cases e : 0 < farN i j ∧ (ca i j = 0 ∨ ra i j = 0 ∨ ca i j = ra i j)
  · have := (al hi hj e.1 e.2).2.1
    rw [fst_ag h hi (by omega)]
  · split
    · rfl
    · split
      · rfl
      · rw [decide_eq_false (fun z => e ⟨z.1, by omega⟩), decide_eq_false (fun z => e ⟨z.1, by omega⟩)]
theorem menS {s b : Nat → Nat} (h : Ag s b) (hb : ∀ i, b i < 8) : cnt (mnS s) 25 = menN b := by
  refine cnt_congr fun k hk => ?_
  unfold mnS ckS
  rw [h k hk, decide_eq_decide]
  have := hb k
  omega
/-- a man stands on one square at most -/
def Uq (b : Nat → Nat) (v : Nat) : Prop := ∀ i j, i < 25 → j < 25 → b i = v → b j = v → i = j
theorem loc7_none {b : Nat → Nat} {v : Nat} (h : loc7 b v = none) : ∀ i, i < 25 → b i ≠ v := fun i hi e => by
  have := find_none h i (by omega) (by omega)
  simp only [decide_eq_false_iff_not] at this
  exact this e
theorem loc7_uq {b : Nat → Nat} {v i : Nat} (hu : Uq b v) (hi : i < 25) (h : b i = v) : loc7 b v = some i := by
  cases e : loc7 b v with
  | none => exact absurd h (loc7_none e i hi)
  | some j => rw [hu i j hi (loc7_some e).1 h (loc7_some e).2]
theorem whR_none {s : Nat → Nat} {v : Nat} : ∀ n, (∀ i, i < n → s i ≠ v) → whR s v n = -1
  | 0, _ => rfl
  | n + 1, h => by rw [whR, if_neg (h n (by omega)), whR_none n (fun i hi => h i (by omega))]
theorem whR_some {s : Nat → Nat} {v j : Nat} : ∀ n, j < n → s j = v → (∀ i, i < n → s i = v → i = j) → whR s v n = nI j
  | 0, h, _, _ => absurd h (by omega)
  | n + 1, h, hj, hu => by
    rw [whR]
    by_cases e : s n = v
    · rw [if_pos e, hu n (by omega) e]
    · rw [if_neg e]
      have : j ≠ n := fun z => e (z ▸ hj)
      exact whR_some n (by omega) hj (fun i hi => hu i (by omega))
theorem whS {s b : Nat → Nat} (h : Ag s b) {v : Nat} (hu : Uq b v) : whR s v 25 = sqI (loc7 b v) := by
  cases e : loc7 b v with
  | none => exact whR_none 25 (fun i hi => by rw [h i hi]; exact loc7_none e i hi)
  | some j =>
    obtain ⟨h1, h2⟩ := loc7_some e
    exact whR_some 25 h1 (by rw [h j h1]; exact h2) (fun i hi z => hu i j hi h1 (by rw [← h i hi]; exact z) h2)
def besO (o : Option Nat) (t : Nat) : Bool := match o with
  | none => false
  | some j => decide (farN j t = 1)
theorem far_comm (i j : Nat) : farN i j = farN j i := by
  unfold farN ca ra cI rI
  rw [show (((j % 5 : Nat) : Int) - ((i % 5 : Nat) : Int)).natAbs = (((i % 5 : Nat) : Int) - ((j % 5 : Nat) : Int)).natAbs by omega, show (((j / 5 : Nat) : Int) - ((i / 5 : Nat) : Int)).natAbs = (((i / 5 : Nat) : Int) - ((j / 5 : Nat) : Int)).natAbs by omega]
theorem far_self (i : Nat) : farN i i = 0 := by
  unfold farN ca ra cI rI
  omega
theorem barR_iff (b : Nat → Nat) (t : Nat) : ∀ n, barR b n t = true ↔ t < n ∧ (isW (b t) = true ∨ b t = 7)
  | 0 => ⟨fun h => (by cases h), fun h => absurd h.1 (by omega)⟩
  | n + 1 => by
    unfold barR
    have ih := barR_iff b t n
    by_cases hw : isW (b n) = true ∨ b n = 7
    · rw [if_pos hw, Bool.or_eq_true, ih]
      unfold one
      rw [decide_eq_true_eq]
      constructor
      · rintro (⟨h1, h2⟩ | h)
        · exact ⟨by omega, h2⟩
        · subst h; exact ⟨by omega, hw⟩
      · rintro ⟨h1, h2⟩
        by_cases e : t = n
        · exact Or.inr e
        · exact Or.inl ⟨by omega, h2⟩
    · rw [if_neg hw, ih]
      constructor
      · rintro ⟨h1, h2⟩
        exact ⟨by omega, h2⟩
      · rintro ⟨h1, h2⟩
        by_cases e : t = n
        · subst e; exact absurd h2 hw
        · exact ⟨by omega, h2⟩
theorem stoR_iff (b : Nat → Nat) (t : Nat) : ∀ n, stoR b n t = true ↔ t < n ∧ b t = 6
  | 0 => ⟨fun h => (by cases h), fun h => absurd h.1 (by omega)⟩
  | n + 1 => by
    unfold stoR
    have ih := stoR_iff b t n
    by_cases hw : b n = 6
    · rw [if_pos hw, Bool.or_eq_true, ih]
      unfold one
      rw [decide_eq_true_eq]
      constructor
      · rintro (⟨h1, h2⟩ | h)
        · exact ⟨by omega, h2⟩
        · subst h; exact ⟨by omega, hw⟩
      · rintro ⟨h1, h2⟩
        by_cases e : t = n
        · exact Or.inr e
        · exact Or.inl ⟨by omega, h2⟩
    · rw [if_neg hw, ih]
      constructor
      · rintro ⟨h1, h2⟩
        exact ⟨by omega, h2⟩
      · rintro ⟨h1, h2⟩
        by_cases e : t = n
        · subst e; exact absurd h2 hw
        · exact ⟨by omega, h2⟩
theorem reach7 {b : Nat → Nat} (hb : ∀ i, b i < 8) {j t : Nat} (hj : j < 25) (ht : t < 25) (h : b j = 7) : reachP b j t = decide (farN j t = 1) := by
  rw [← atM_eq (fun i _ => hb i) hj ht]
  unfold atM
  rw [if_neg (by omega), if_pos (Or.inr h)]
theorem kReach_eq {b : Nat → Nat} (hb : ∀ i, b i < 8) {t : Nat} (ht : t < 25) : kReach b t = besO (loc7 b 7) t := by
  unfold kReach besO
  cases e : loc7 b 7 with
  | none => rfl
  | some j => exact reach7 hb (loc7_some e).1 ht (loc7_some e).2
theorem movP_iff {b : Nat → Nat} (hb : ∀ i, b i < 8) {i t : Nat} (ht : t < 25) : movP b i t = true ↔ isW (b i) = true ∧ reachP b i t = true ∧ (b t = 0 ∨ b t = 6) ∧ ¬ (b i = 1 ∧ besO (loc7 b 7) t = true) := by
  unfold movP
  by_cases hw : isW (b i) = true
  · rw [if_pos hw, Bool.and_eq_true]
    have h0 : barR b 25 t = true ↔ ¬ (b t = 0 ∨ b t = 6) := by
      rw [barR_iff]
      have := hb t
      unfold isW
      rw [Bool.and_eq_true, decide_eq_true_eq, decide_eq_true_eq]
      omega
    unfold barP
    by_cases h1 : b i = 1
    · rw [if_pos h1, Bool.not_eq_true', Bool.or_eq_false_iff, kReach_eq hb ht]
      constructor
      · rintro ⟨z1, z2, z3⟩
        refine ⟨hw, z1, ?_, fun z => ?_⟩
        · exact Classical.byContradiction (fun z => by rw [h0.mpr z] at z2; cases z2)
        · rw [z.2] at z3; cases z3
      · rintro ⟨-, z1, z2, z3⟩
        refine ⟨z1, ?_, ?_⟩
        · cases e : barR b 25 t
          · rfl
          · exact absurd z2 (h0.mp e)
        · cases e : besO (loc7 b 7) t
          · rfl
          · exact absurd ⟨h1, e⟩ z3
    · rw [if_neg h1, Bool.not_eq_true']
      constructor
      · rintro ⟨z1, z2⟩
        refine ⟨hw, z1, ?_, fun z => h1 z.1⟩
        exact Classical.byContradiction (fun z => by rw [h0.mpr z] at z2; cases z2)
      · rintro ⟨-, z1, z2, z3⟩
        refine ⟨z1, ?_⟩
        cases e : barR b 25 t
        · rfl
        · exact absurd z2 (h0.mp e)
  · rw [if_neg hw]
    exact ⟨fun h => (by cases h), fun h => absurd h.1 hw⟩
theorem esc_iff {b : Nat → Nat} (hb : ∀ i, b i < 8) {j t : Nat} (hl : loc7 b 7 = some j) (ht : t < 25) : escP b t = true ↔ farN j t = 1 ∧ b t ≠ 6 ∧ lineN (up (up b j 0) t 7) t = 0 := by
  obtain ⟨hj, hj7⟩ := loc7_some hl
  unfold escP
  rw [hl]
  simp only []
  rw [Bool.and_eq_true, Bool.and_eq_true, Bool.not_eq_true', Bool.not_eq_true', reach7 hb hj ht hj7, decide_eq_true_eq, cov_line ht, decide_eq_false_iff_not, line_src ht]
  constructor
  · rintro ⟨⟨h1, h2⟩, h3⟩
    have hne : t ≠ j := by intro e; subst e; rw [far_self] at h1; omega
    refine ⟨h1, fun e => ?_, by omega⟩
    have : stoR (up b j 0) 25 t = true := (stoR_iff _ _ _).mpr ⟨ht, by rw [up_ne _ hne]; exact e⟩
    rw [this] at h2; cases h2
  · rintro ⟨h1, h2, h3⟩
    have hne : t ≠ j := by intro e; subst e; rw [far_self] at h1; omega
    refine ⟨⟨h1, ?_⟩, by omega⟩
    cases e : stoR (up b j 0) 25 t
    · rfl
    · have := ((stoR_iff _ _ _).mp e).2
      rw [up_ne _ hne] at this
      exact absurd this h2
theorem chk_eq {b : Nat → Nat} {j : Nat} (hl : loc7 b 7 = some j) : chkP b = decide (0 < lineN b j) := by
  unfold chkP
  rw [hl]
  simp only []
  rw [cov_line (loc7_some hl).1, line_src (loc7_some hl).1]
