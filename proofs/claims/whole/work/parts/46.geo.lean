/-! squares in a way: what is attacked, told by directions (pure) -/
theorem pos0_all : ∀ (i : Fin 25) (d : Fin 16), posM i d 0 = some i.val := by decide +kernel
theorem pos0 {i d : Nat} (hi : i < 25) (hd : d < 16) : posM i d 0 = some i := pos0_all ⟨i, hi⟩ ⟨d, hd⟩
def nxOk (i d f : Nat) : Bool := match posM i d f with
  | none => decide (posM i d (f + 1) = none)
  | some q => match stepC (q % 5) (q / 5) d with
    | none => decide (posM i d (f + 1) = none)
    | some z => decide (posM i d (f + 1) = some (z.2 * 5 + z.1)) && decide ((z.2 * 5 + z.1) % 5 = z.1) && decide ((z.2 * 5 + z.1) / 5 = z.2)
theorem nxOk_all : ∀ (i : Fin 25) (d : Fin 16) (f : Fin 5), nxOk i d f = true := by decide +kernel
theorem pos_none {i d : Nat} (hi : i < 25) (hd : d < 16) {f : Nat} (h : posM i d f = none) : ∀ n, f + n ≤ 5 → posM i d (f + n) = none
  | 0, _ => h
  | n + 1, hn => by
    have h0 := pos_none hi hd h n (by omega)
    have h1 : nxOk i d (f + n) = true := nxOk_all ⟨i, hi⟩ ⟨d, hd⟩ ⟨f + n, by omega⟩
    unfold nxOk at h1
    rw [h0] at h1
    exact of_decide_eq_true h1
theorem pos_none_le {i d f g : Nat} (hi : i < 25) (hd : d < 16) (h : posM i d f = none) (hf : f ≤ g) (hg : g ≤ 5) : posM i d g = none := by
  have := pos_none hi hd h (g - f) (by omega)
  rwa [show f + (g - f) = g by omega] at this
theorem pos_next {i d f q : Nat} (hi : i < 25) (hd : d < 16) (hf : f < 5) (h : posM i d f = some q) : (stepC (q % 5) (q / 5) d = none ∧ posM i d (f + 1) = none) ∨ ∃ z, stepC (q % 5) (q / 5) d = some z ∧ posM i d (f + 1) = some (z.2 * 5 + z.1) ∧ (z.2 * 5 + z.1) % 5 = z.1 ∧ (z.2 * 5 + z.1) / 5 = z.2 := by
  have h1 : nxOk i d f = true := nxOk_all ⟨i, hi⟩ ⟨d, hd⟩ ⟨f, hf⟩
  unfold nxOk at h1
  rw [h] at h1
  cases e : stepC (q % 5) (q / 5) d with
  | none =>
    simp only [e] at h1
    exact Or.inl ⟨rfl, of_decide_eq_true h1⟩
  | some z =>
    simp only [e, Bool.and_eq_true, decide_eq_true_eq] at h1
    exact Or.inr ⟨z, rfl, h1.1.1, h1.1.2, h1.2⟩
def Hits (b : Nat → Nat) (i d f k t : Nat) : Prop := posM i d k = some t ∧ ∀ g, f < g → g < k → ∀ q, posM i d g = some q → b q = 0
theorem hits_lt {b : Nat → Nat} {i d f k t : Nat} (hi : i < 25) (hd : d < 16) (hk : k < 6) (h : Hits b i d f k t) : t < 25 := posM_lt hi hd hk h.1
theorem ray_iff {b : Nat → Nat} {i d : Nat} (hi : i < 25) (hd : d < 16) : ∀ (n f q : Nat) (p : Nat → Bool) (t : Nat), f + n ≤ 5 → posM i d f = some q → (ray b d n (q % 5) (q / 5) p t = true ↔ p t = true ∨ ∃ k, f < k ∧ k ≤ f + n ∧ Hits b i d f k t)
  | 0, f, q, p, t, hn, hq => ⟨Or.inl, fun h => h.elim id (fun ⟨k, h1, h2, _⟩ => absurd h1 (by omega))⟩
  | n + 1, f, q, p, t, hn, hq => by
    unfold ray
    rcases pos_next hi hd (by omega) hq with ⟨e, e1⟩ | ⟨z, e, e1, e2, e3⟩
    · simp only [e]
      refine ⟨Or.inl, fun h => h.elim id (fun ⟨k, h1, h2, h3⟩ => ?_)⟩
      have := pos_none_le hi hd e1 (show f + 1 ≤ k by omega) (by omega)
      rw [h3.1] at this
      cases this
    · simp only [e]
      have hone : ∀ t, one (z.2 * 5 + z.1) t = true ↔ t = z.2 * 5 + z.1 := fun t => by simp [one]
      by_cases hz : b (z.2 * 5 + z.1) = 0
      · rw [if_pos hz]
        have ih := ray_iff (b := b) hi hd n (f + 1) (z.2 * 5 + z.1) (fun t => p t || one (z.2 * 5 + z.1) t) t (by omega) e1
        rw [e2, e3] at ih
        rw [ih, Bool.or_eq_true, hone]
        constructor
        · rintro ((h | h) | ⟨k, h1, h2, h3, h4⟩)
          · exact Or.inl h
          · exact Or.inr ⟨f + 1, by omega, by omega, by rw [h]; exact e1, fun g h1 h2 => absurd h1 (by omega)⟩
          · refine Or.inr ⟨k, by omega, by omega, h3, fun g g1 g2 y hy => ?_⟩
            by_cases hg : g = f + 1
            · subst hg
              rw [e1] at hy
              injection hy with hy
              rw [← hy]; exact hz
            · exact h4 g (by omega) g2 y hy
        · rintro (h | ⟨k, h1, h2, h3, h4⟩)
          · exact Or.inl (Or.inl h)
          · by_cases hk : k = f + 1
            · subst hk
              rw [e1] at h3
              injection h3 with h3
              exact Or.inl (Or.inr h3.symm)
            · exact Or.inr ⟨k, by omega, by omega, h3, fun g g1 g2 => h4 g (by omega) g2⟩
      · rw [if_neg hz, Bool.or_eq_true, hone]
        constructor
        · rintro (h | h)
          · exact Or.inl h
          · exact Or.inr ⟨f + 1, by omega, by omega, by rw [h]; exact e1, fun g h1 h2 => absurd h1 (by omega)⟩
        · rintro (h | ⟨k, h1, h2, h3, h4⟩)
          · exact Or.inl h
          · by_cases hk : k = f + 1
            · subst hk
              rw [e1] at h3
              injection h3 with h3
              exact Or.inr h3.symm
            · exact absurd (h4 (f + 1) (by omega) (by omega) _ e1) hz
theorem rays_iff {b : Nat → Nat} {i s : Nat} (hi : i < 25) (hs : s ≤ 4) : ∀ (n d0 : Nat) (p : Nat → Bool) (t : Nat), d0 + n ≤ 16 → (rays b i s n d0 p t = true ↔ p t = true ∨ ∃ d k, d0 ≤ d ∧ d < d0 + n ∧ 0 < k ∧ k ≤ s ∧ Hits b i d 0 k t)
  | 0, d0, p, t, hn => ⟨Or.inl, fun h => h.elim id (fun ⟨d, k, h1, h2, _⟩ => absurd h1 (by omega))⟩
  | n + 1, d0, p, t, hn => by
    have ih := rays_iff (b := b) hi hs n (d0 + 1) (ray b d0 s (i % 5) (i / 5) p) t (by omega)
    have hr := ray_iff (b := b) hi (show d0 < 16 by omega) s 0 i p t (by omega) (pos0 hi (by omega))
    unfold rays
    rw [ih, hr]
    constructor
    · rintro ((h | ⟨k, h1, h2, h3⟩) | ⟨d, k, h1, h2, h3, h4, h5⟩)
      · exact Or.inl h
      · exact Or.inr ⟨d0, k, by omega, by omega, h1, by omega, h3⟩
      · exact Or.inr ⟨d, k, by omega, by omega, h3, h4, h5⟩
    · rintro (h | ⟨d, k, h1, h2, h3, h4, h5⟩)
      · exact Or.inl (Or.inl h)
      · by_cases hd : d = d0
        · subst hd
          exact Or.inl (Or.inr ⟨k, h3, by omega, h5⟩)
        · exact Or.inr ⟨d, k, by omega, by omega, h3, h4, h5⟩
theorem reachM_iff {b : Nat → Nat} {i : Nat} (hi : i < 25) (m t : Nat) : reachM b i m t = true ↔ ∃ d k, rF m ≤ d ∧ d < rE m ∧ 0 < k ∧ k ≤ rS m ∧ Hits b i d 0 k t := by
  have h1 := rF_le m
  have h2 := rE_le m
  have h := rays_iff (b := b) hi (rS_le m) (rE m - rF m) (rF m) (fun _ => false) t (by omega)
  unfold reachM
  rw [h]
  constructor
  · rintro (h | ⟨d, k, h1, h2, h3⟩)
    · cases h
    · exact ⟨d, k, h1, by omega, h3⟩
  · rintro ⟨d, k, h1, h2, h3⟩
    exact Or.inr ⟨d, k, h1, by omega, h3⟩
def ttOk (i d k : Nat) : Bool := match posM i d k with
  | none => true
  | some j => decide (dirT i j = d) && decide (farN i j = k) && (decide (ca i j = 0) || decide (ra i j = 0) || decide (ca i j = ra i j))
theorem ttOk_all : ∀ (i : Fin 25) (d : Fin 8) (k : Fin 4), ttOk i d (k + 1) = true := by decide +kernel
theorem tt {i d k j : Nat} (hi : i < 25) (hd : d < 8) (h0 : 0 < k) (hk : k < 5) (h : posM i d k = some j) : dirT i j = d ∧ farN i j = k ∧ (ca i j = 0 ∨ ra i j = 0 ∨ ca i j = ra i j) := by
  have h1 : ttOk i d (k - 1 + 1) = true := ttOk_all ⟨i, hi⟩ ⟨d, hd⟩ ⟨k - 1, by omega⟩
  rw [show k - 1 + 1 = k by omega] at h1
  unfold ttOk at h1
  rw [h] at h1
  simp only [Bool.and_eq_true, Bool.or_eq_true, decide_eq_true_eq] at h1
  exact ⟨h1.1.1, h1.1.2, or_assoc.mp h1.2⟩
def alOk (i j : Nat) : Bool := !(decide (0 < farN i j) && (decide (ca i j = 0) || decide (ra i j = 0) || decide (ca i j = ra i j))) || (decide (posM i (dirT i j) (farN i j) = some j) && decide (dirT i j < 8) && (decide (dirT i j < 4) == (decide (ca i j = 0) || decide (ra i j = 0))))
theorem alOk_all : ∀ i j : Fin 25, alOk i j = true := by decide +kernel
theorem al {i j : Nat} (hi : i < 25) (hj : j < 25) (h0 : 0 < farN i j) (h : ca i j = 0 ∨ ra i j = 0 ∨ ca i j = ra i j) : posM i (dirT i j) (farN i j) = some j ∧ dirT i j < 8 ∧ (dirT i j < 4 ↔ ca i j = 0 ∨ ra i j = 0) := by
  have h1 : alOk i j = true := alOk_all ⟨i, hi⟩ ⟨j, hj⟩
  unfold alOk at h1
  have h2 : (decide (0 < farN i j) && (decide (ca i j = 0) || decide (ra i j = 0) || decide (ca i j = ra i j))) = true := by
    rw [decide_eq_true h0, Bool.true_and]
    rcases h with h | h | h
    · rw [decide_eq_true h]; rfl
    · rw [decide_eq_true h, Bool.or_true]; rfl
    · rw [decide_eq_true h, Bool.or_true]
  rw [h2] at h1
  simp only [Bool.not_true, Bool.false_or, Bool.and_eq_true, decide_eq_true_eq, beq_iff_eq] at h1
  refine ⟨h1.1.1, h1.1.2, ?_⟩
  rw [← decide_eq_true_iff (p := dirT i j < 4), h1.2, Bool.or_eq_true, decide_eq_true_eq, decide_eq_true_eq]
def knA (i d : Nat) : Bool := match posM i d 1 with
  | none => true
  | some j => decide (e3 i j = 5)
theorem knA_all : ∀ (i : Fin 25) (d : Fin 8), knA i (8 + d) = true := by decide +kernel
theorem knB_all : ∀ i j : Fin 25, e3 i j = 5 → ∃ d : Fin 8, posM i (8 + d) 1 = some j.val := by decide +kernel
theorem far_lt : ∀ i j : Fin 25, farN i j < 5 := by decide +kernel
theorem fsD_iff {s : Nat → Nat} {i d : Nat} (hi : i < 25) (hd : d < 16) {k j : Nat} (hk : k ≤ 5) (hp : posM i d k = some j) : ∀ n f : Nat, 0 < f → f ≤ k → k ≤ f + n → ((fsD s i d n f = 0 ∨ k ≤ fsD s i d n f) ↔ ∀ g, f ≤ g → g < k → ∀ q, posM i d g = some q → s q = 0)
  | 0, f, h0, h1, h2 => ⟨fun _ g g1 g2 => absurd g1 (by omega), fun _ => Or.inl rfl⟩
  | n + 1, f, h0, h1, h2 => by
    by_cases hf : k = f
    · subst hf
      refine ⟨fun _ g g1 g2 => absurd g1 (by omega), fun _ => ?_⟩
      by_cases hz : fsD s i d (n + 1) k = 0
      · exact Or.inl hz
      · exact Or.inr (fsD_ok rfl hz).1
    · unfold fsD
      cases e : posM i d f with
      | none =>
        have := pos_none_le hi hd e (show f ≤ k by omega) hk
        rw [hp] at this
        cases this
      | some q =>
        simp only []
        by_cases hq : s q = 0
        · rw [if_pos hq, fsD_iff hi hd hk hp n (f + 1) (by omega) (by omega) (by omega)]
          constructor
          · intro h g g1 g2 y hy
            by_cases hg : g = f
            · subst hg
              rw [e] at hy
              injection hy with hy
              rw [← hy]; exact hq
            · exact h g (by omega) g2 y hy
          · intro h g g1 g2
            exact h g (by omega) g2
        · rw [if_neg hq]
          refine ⟨fun h => absurd h (by omega), fun h => absurd (h f (by omega) (by omega) q e) hq⟩
theorem fst_iff {s : Nat → Nat} {i d k j : Nat} (hi : i < 25) (hd : d < 16) (h0 : 0 < k) (hk : k ≤ 5) (hp : posM i d k = some j) : (fst s i d = 0 ∨ k ≤ fst s i d) ↔ ∀ g, 0 < g → g < k → ∀ q, posM i d g = some q → s q = 0 := by
  unfold fst
  rw [fsD_iff hi hd hk hp 5 1 (by omega) (by omega) (by omega)]
  exact Iff.rfl
theorem reachP_iff {b : Nat → Nat} {i : Nat} (hi : i < 25) (t : Nat) : reachP b i t = true ↔ b i ≠ 0 ∧ b i ≠ 6 ∧ ∃ d k, rF (b i) ≤ d ∧ d < rE (b i) ∧ 0 < k ∧ k ≤ rS (b i) ∧ Hits b i d 0 k t := by
  unfold reachP
  by_cases h : b i = 0 ∨ b i = 6
  · rw [if_pos h]
    refine ⟨fun z => (by cases z), fun z => ?_⟩
    rcases h with h | h
    · exact absurd h z.1
    · exact absurd h z.2.1
  · rw [if_neg h, reachM_iff hi]
    exact ⟨fun z => ⟨fun e => h (Or.inl e), fun e => h (Or.inr e), z⟩, fun z => z.2.2⟩
theorem atM_eq {b : Nat → Nat} (hb : ∀ i, i < 25 → b i < 8) {i j : Nat} (hi : i < 25) (hj : j < 25) : atM b i j = reachP b i j := by
  have hfl : farN i j < 5 := far_lt ⟨i, hi⟩ ⟨j, hj⟩
  have hff : farN i j = max (ca i j) (ra i j) := rfl
  have hbi := hb i hi
  rw [Bool.eq_iff_iff, reachP_iff hi]
  unfold atM
  by_cases h5 : b i = 5
  · rw [if_pos h5, decide_eq_true_eq, h5]
    constructor
    · intro h
      obtain ⟨d, hd⟩ := knB_all ⟨i, hi⟩ ⟨j, hj⟩ h
      exact ⟨by omega, by omega, 8 + d, 1, by simp [rF], by have := d.2; simp [rE]; omega, by omega, by simp [rS], hd, fun g g1 g2 => absurd g1 (by omega)⟩
    · rintro ⟨-, -, d, k, h1, h2, h3, h4, h6, -⟩
      simp [rF] at h1
      simp [rE] at h2
      simp [rS] at h4
      have hk : k = 1 := by omega
      subst hk
      have := knA_all ⟨i, hi⟩ ⟨d - 8, by omega⟩
      simp only [show 8 + (d - 8) = d by omega] at this
      unfold knA at this
      rw [h6] at this
      exact of_decide_eq_true this
  · rw [if_neg h5]
    by_cases h17 : b i = 1 ∨ b i = 7
    · rw [if_pos h17, decide_eq_true_eq]
      have r1 : rF (b i) = 0 := by unfold rF; rcases h17 with h | h <;> rw [h] <;> rfl
      have r2 : rE (b i) = 8 := by unfold rE; rcases h17 with h | h <;> rw [h] <;> rfl
      have r3 : rS (b i) = 1 := by unfold rS; rcases h17 with h | h <;> rw [h] <;> rfl
      rw [r1, r2, r3]
      constructor
      · intro h
        have hal : ca i j = 0 ∨ ra i j = 0 ∨ ca i j = ra i j := by unfold farN at h; omega
        obtain ⟨a1, a2, -⟩ := al hi hj (by omega) hal
        refine ⟨by omega, by omega, dirT i j, 1, by omega, a2, by omega, by omega, by rw [← h]; exact a1, fun g g1 g2 => absurd g1 (by omega)⟩
      · rintro ⟨-, -, d, k, h1, h2, h3, h4, h6, -⟩
        have := (tt hi h2 h3 (by omega) h6).2.1
        omega
    · rw [if_neg h17, decide_eq_true_eq]
      constructor
      · rintro ⟨h1, h2, h3, h4, h6⟩
        have hal : ca i j = 0 ∨ ra i j = 0 ∨ ca i j = ra i j := by omega
        obtain ⟨a1, a2, a3⟩ := al hi hj h1 hal
        have hh := (fst_iff (s := b) hi (by omega) h1 (by omega) a1).mp h6
        have r3 : rS (b i) = 4 := by unfold rS; rw [if_pos (by omega)]
        refine ⟨by omega, by omega, dirT i j, farN i j, ?_, ?_, h1, by omega, a1, hh⟩
        · unfold rF; (repeat' split) <;> omega
        · unfold rE; (repeat' split) <;> omega
      · rintro ⟨h1, h2, d, k, h3, h4, h6, h7, h8⟩
        have r3 : rS (b i) = 4 := by unfold rS; rw [if_pos (by omega)]
        have hd8 : d < 8 := by unfold rE at h4; (repeat' split at h4) <;> omega
        obtain ⟨t1, t2, hal⟩ := tt hi hd8 h6 (by omega) h8.1
        subst t1
        subst t2
        obtain ⟨a1, a2, a3⟩ := al hi hj h6 hal
        have hh := (fst_iff (s := b) hi (by omega) h6 (by omega) a1).mpr h8.2
        refine ⟨h6, ?_, by omega, by omega, hh⟩
        unfold rF at h3
        unfold rE at h4
        (repeat' split at h3) <;> (repeat' split at h4) <;> omega
