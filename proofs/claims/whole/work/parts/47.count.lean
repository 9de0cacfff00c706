/-! how often a square is attacked, told in both ways (pure) -/
theorem met_iff {b : Nat → Nat} {i d : Nat} (hi : i < 25) (hd : d < 16) : ∀ (n f q : Nat), f + n ≤ 5 → posM i d f = some q → (met b d n (q % 5) (q / 5) f = true ↔ ∃ k t, f < k ∧ k ≤ f + n ∧ Hits b i d f k t ∧ b t ≠ 0 ∧ along (b t) d (k - 1) = true)
  | 0, f, q, hn, hq => ⟨fun h => (by cases h), fun ⟨k, t, h1, h2, _⟩ => absurd h1 (by omega)⟩
  | n + 1, f, q, hn, hq => by
    unfold met
    rcases pos_next hi hd (by omega) hq with ⟨e, e1⟩ | ⟨z, e, e1, e2, e3⟩
    · simp only [e]
      refine ⟨fun h => (by cases h), fun ⟨k, t, h1, h2, h3, _⟩ => ?_⟩
      have := pos_none_le hi hd e1 (show f + 1 ≤ k by omega) (by omega)
      rw [h3.1] at this
      cases this
    · simp only [e]
      by_cases hz : b (z.2 * 5 + z.1) = 0
      · rw [if_pos hz]
        have ih := met_iff (b := b) hi hd n (f + 1) (z.2 * 5 + z.1) (by omega) e1
        rw [e2, e3] at ih
        rw [ih]
        constructor
        · rintro ⟨k, t, h1, h2, ⟨h3, h4⟩, h5⟩
          refine ⟨k, t, by omega, by omega, ⟨h3, fun g g1 g2 y hy => ?_⟩, h5⟩
          by_cases hg : g = f + 1
          · subst hg
            rw [e1] at hy
            injection hy with hy
            rw [← hy]; exact hz
          · exact h4 g (by omega) g2 y hy
        · rintro ⟨k, t, h1, h2, ⟨h3, h4⟩, h5⟩
          by_cases hk : k = f + 1
          · subst hk
            rw [e1] at h3
            injection h3 with h3
            exact absurd (h3 ▸ hz) h5.1
          · exact ⟨k, t, by omega, by omega, ⟨h3, fun g g1 g2 => h4 g (by omega) g2⟩, h5⟩
      · rw [if_neg hz]
        constructor
        · intro h
          exact ⟨f + 1, z.2 * 5 + z.1, by omega, by omega, ⟨e1, fun g h1 h2 => absurd h1 (by omega)⟩, hz, h⟩
        · rintro ⟨k, t, h1, h2, ⟨h3, h4⟩, h5⟩
          by_cases hk : k = f + 1
          · subst hk
            rw [e1] at h3
            injection h3 with h3
            rw [h3]; exact h5.2
          · exact absurd (h4 (f + 1) (by omega) (by omega) _ e1) hz
/-- the man on t attacks i, seen from i in way d -/
def Sees (b : Nat → Nat) (i d t : Nat) : Prop := ∃ k, 0 < k ∧ k ≤ stp d ∧ Hits b i d 0 k t ∧ along (b t) d (k - 1) = true
theorem stp_le (d : Nat) : stp d ≤ 4 := by unfold stp; split <;> omega
theorem along_ne {m d s : Nat} (h : along m d s = true) : m ≠ 0 ∧ 1 ≤ m ∧ m ≤ 5 := by
  unfold along at h
  have := of_decide_eq_true h
  omega
theorem sees_lt {b : Nat → Nat} {i d t : Nat} (hi : i < 25) (hd : d < 16) (h : Sees b i d t) : t < 25 := by
  obtain ⟨k, h1, h2, h3, h4⟩ := h
  have := stp_le d
  exact hits_lt hi hd (by omega) h3
theorem metB_iff {b : Nat → Nat} {i d : Nat} (hi : i < 25) (hd : d < 16) : metB b i d = true ↔ ∃ t, t < 25 ∧ Sees b i d t := by
  unfold metB
  have := stp_le d
  rw [met_iff hi hd (stp d) 0 i (by omega) (pos0 hi hd)]
  constructor
  · rintro ⟨k, t, h1, h2, h3, h4, h5⟩
    have hs : Sees b i d t := ⟨k, h1, by omega, h3, h5⟩
    exact ⟨t, sees_lt hi hd hs, hs⟩
  · rintro ⟨t, -, k, h1, h2, h3, h5⟩
    exact ⟨k, t, h1, by omega, h3, (along_ne h5).1, h5⟩
theorem sees_one {b : Nat → Nat} {i d t t2 : Nat} (hi : i < 25) (hd : d < 16) (h : Sees b i d t) (h2 : Sees b i d t2) : t = t2 := by
  obtain ⟨k, a1, a2, ⟨a3, a4⟩, a5⟩ := h
  obtain ⟨k2, c1, c2, ⟨c3, c4⟩, c5⟩ := h2
  rcases Nat.lt_trichotomy k k2 with hk | hk | hk
  · exact absurd (c4 k a1 hk t a3) (along_ne a5).1
  · subst hk
    rw [a3] at c3
    injection c3
  · exact absurd (a4 k2 c1 hk t2 c3) (along_ne c5).1
def wyK (i j : Nat) : Nat := ((List.range 16).find? (fun d => decide (8 ≤ d) && decide (posM i d 1 = some j))).getD 16
def wyOk (i d : Nat) : Bool := match posM i d 1 with
  | none => true
  | some j => decide (wyK i j = d) && decide (e3 i j = 5)
theorem wyOk_all : ∀ (i : Fin 25) (d : Fin 8), wyOk i (8 + d) = true := by decide +kernel
def wy (i j : Nat) : Nat := if e3 i j = 5 then wyK i j else dirT i j
def alE (i j : Nat) : Bool := !(decide (ca i j = 0) || decide (ra i j = 0) || decide (ca i j = ra i j)) || decide (e3 i j ≠ 5)
theorem alE_all : ∀ i j : Fin 25, alE i j = true := by decide +kernel
theorem wy_eq {i d k j : Nat} (hi : i < 25) (hd : d < 16) (h0 : 0 < k) (hk : k ≤ stp d) (h : posM i d k = some j) : wy i j = d := by
  unfold wy
  by_cases h8 : d < 8
  · have hk4 : k ≤ 4 := by have := stp_le d; omega
    have hj := posM_lt hi hd (by omega) h
    obtain ⟨t1, -, t3⟩ := tt hi h8 h0 (by omega) h
    have := alE_all ⟨i, hi⟩ ⟨j, hj⟩
    unfold alE at this
    rw [Bool.or_eq_true, Bool.not_eq_true', decide_eq_true_eq] at this
    rcases this with z | z
    · rw [Bool.or_eq_false_iff, Bool.or_eq_false_iff, decide_eq_false_iff_not, decide_eq_false_iff_not, decide_eq_false_iff_not] at z
      rcases t3 with q | q | q
      · exact absurd q z.1.1
      · exact absurd q z.1.2
      · exact absurd q z.2
    · rw [if_neg z]; exact t1
  · have hk1 : k = 1 := by unfold stp at hk; rw [if_neg h8] at hk; omega
    subst hk1
    have := wyOk_all ⟨i, hi⟩ ⟨d - 8, by omega⟩
    simp only [show 8 + (d - 8) = d by omega] at this
    unfold wyOk at this
    rw [h] at this
    simp only [Bool.and_eq_true, decide_eq_true_eq] at this
    rw [if_pos this.2, this.1]
theorem sees_way {b : Nat → Nat} {i d d2 t : Nat} (hi : i < 25) (hd : d < 16) (hd2 : d2 < 16) (h : Sees b i d t) (h2 : Sees b i d2 t) : d = d2 := by
  obtain ⟨k, a1, a2, ⟨a3, -⟩, -⟩ := h
  obtain ⟨k2, c1, c2, ⟨c3, -⟩, -⟩ := h2
  rw [← wy_eq hi hd a1 a2 a3, wy_eq hi hd2 c1 c2 c3]
def opp (d : Nat) : Nat := [2, 3, 0, 1, 6, 7, 4, 5, 12, 13, 14, 15, 8, 9, 10, 11].getD d 0
def opOk (f d k : Nat) : Bool := match posM f d k with
  | none => true
  | some i => decide (∀ g : Fin 5, g.val ≤ k → posM i (opp d) g = posM f d (k - g))
theorem opOk_all : ∀ (f : Fin 25) (d : Fin 16) (k : Fin 5), opOk f d k = true := by decide +kernel
theorem op_pos {f d k i g : Nat} (hf : f < 25) (hd : d < 16) (hk : k < 5) (h : posM f d k = some i) (hg : g ≤ k) : posM i (opp d) g = posM f d (k - g) := by
  have h1 : opOk f d k = true := opOk_all ⟨f, hf⟩ ⟨d, hd⟩ ⟨k, hk⟩
  unfold opOk at h1
  rw [h] at h1
  exact of_decide_eq_true h1 ⟨g, by omega⟩ hg
theorem opp_all : ∀ d : Fin 16, opp d < 16 ∧ (opp d < 4 ↔ d.val < 4) ∧ (opp d < 8 ↔ d.val < 8) ∧ opp (opp d) = d := by decide +kernel
theorem hits_back {b : Nat → Nat} {f d k i : Nat} (hf : f < 25) (hd : d < 16) (hk : k < 5) (h : Hits b f d 0 k i) : Hits b i (opp d) 0 k f := by
  refine ⟨?_, fun g g1 g2 q hq => ?_⟩
  · rw [op_pos hf hd hk h.1 (Nat.le_refl _), Nat.sub_self, pos0 hf hd]
  · rw [op_pos hf hd hk h.1 (by omega)] at hq
    exact h.2 (k - g) (by omega) (by omega) q hq
theorem along_rng {m d k : Nat} (h0 : 0 < k) (hd : d < 16) : (1 ≤ m ∧ m ≤ 5 ∧ rF m ≤ d ∧ d < rE m ∧ k ≤ rS m) ↔ (along m d (k - 1) = true ∧ k ≤ stp d) := by
  unfold along rF rE rS stp
  rw [decide_eq_true_eq]
  constructor
  · rintro ⟨h1, h2, h3, h4, h5⟩
    (repeat' split at h3) <;> (repeat' split at h4) <;> (repeat' split at h5) <;> (repeat' split) <;> omega
  · rintro ⟨h1, h2⟩
    (repeat' split at h2) <;> (refine ⟨?_, ?_, ?_, ?_, ?_⟩) <;> (repeat' split) <;> omega
theorem attR_iff {b : Nat → Nat} {i f : Nat} (hi : i < 25) (hf : f < 25) : attR b i f = true ↔ ∃ d, d < 16 ∧ Sees b i d f := by
  unfold attR
  rw [Bool.and_eq_true, reachP_iff hf]
  constructor
  · rintro ⟨hw, -, -, d, k, h1, h2, h3, h4, h5⟩
    have hd : d < 16 := by have := rE_le (b f); omega
    have hk : k < 5 := by have := rS_le (b f); omega
    obtain ⟨o1, o2, o3, o4⟩ := opp_all ⟨d, hd⟩
    have hw2 : 1 ≤ b f ∧ b f ≤ 5 := by unfold isW at hw; rw [Bool.and_eq_true, decide_eq_true_eq, decide_eq_true_eq] at hw; exact hw
    refine ⟨opp d, o1, k, h3, ?_⟩
    have ha := (along_rng (m := b f) h3 hd).mp ⟨hw2.1, hw2.2, h1, h2, h4⟩
    have h8 : along (b f) (opp d) (k - 1) = along (b f) d (k - 1) := by
      unfold along
      rw [decide_eq_decide]
      simp only [] at o2 o3
      omega
    have h9 : stp (opp d) = stp d := by unfold stp; simp only [] at o3; by_cases h : d < 8 <;> simp [h, o3]
    exact ⟨by rw [h9]; exact ha.2, hits_back hf hd hk h5, by rw [h8]; exact ha.1⟩
  · rintro ⟨d, hd, k, h1, h2, h3, h4⟩
    have hk : k < 5 := by have := stp_le d; omega
    obtain ⟨o1, o2, o3, o4⟩ := opp_all ⟨d, hd⟩
    have hb := hits_back hi hd hk h3
    have h8 : along (b f) (opp d) (k - 1) = along (b f) d (k - 1) := by
      unfold along
      rw [decide_eq_decide]
      simp only [] at o2 o3
      omega
    have h9 : stp (opp d) = stp d := by unfold stp; simp only [] at o3; by_cases h : d < 8 <;> simp [h, o3]
    obtain ⟨a1, a2, a3, a4, a5⟩ := (along_rng (m := b f) h1 o1).mpr ⟨by rw [h8]; exact h4, by rw [h9]; exact h2⟩
    refine ⟨?_, by omega, by omega, opp d, k, a3, a4, h1, a5, hb⟩
    unfold isW
    rw [decide_eq_true a1, decide_eq_true a2]; rfl
/-! counting -/
def sm (g : Nat → Nat) : Nat → Nat
  | 0 => 0
  | n + 1 => sm g n + g n
theorem sm_congr {g h : Nat → Nat} : ∀ {n : Nat}, (∀ k, k < n → g k = h k) → sm g n = sm h n
  | 0, _ => rfl
  | n + 1, H => by rw [sm, sm, sm_congr (fun k hk => H k (by omega)), H n (by omega)]
theorem cnt_congr {p q : Nat → Bool} : ∀ {n : Nat}, (∀ k, k < n → p k = q k) → cnt p n = cnt q n
  | 0, _ => rfl
  | n + 1, H => by rw [cnt, cnt, cnt_congr (fun k hk => H k (by omega)), H n (by omega)]
theorem cnt_sm (p : Nat → Bool) : ∀ n, cnt p n = sm (fun k => if p k = true then 1 else 0) n
  | 0 => rfl
  | n + 1 => by rw [cnt, sm, cnt_sm p n]
theorem sm_add (g h : Nat → Nat) : ∀ n, sm (fun k => g k + h k) n = sm g n + sm h n
  | 0 => rfl
  | n + 1 => by rw [sm, sm, sm, sm_add g h n]; omega
theorem sm_swap (r : Nat → Nat → Bool) (m : Nat) : ∀ n, sm (fun d => cnt (r d) m) n = sm (fun f => cnt (fun d => r d f) n) m
  | 0 => by
    rw [sm]
    induction m with
    | zero => rfl
    | succ m ih => rw [sm, ← ih]; rfl
  | n + 1 => by
    rw [sm, sm_swap r m n, cnt_sm (r n) m, ← sm_add]
    exact sm_congr fun k hk => rfl
theorem cnt_zero {p : Nat → Bool} : ∀ {n : Nat}, (∀ k, k < n → p k = false) → cnt p n = 0
  | 0, _ => rfl
  | n + 1, H => by rw [cnt, cnt_zero (fun k hk => H k (by omega)), H n (by omega)]; rfl
theorem cnt_pos {p : Nat → Bool} {n k : Nat} (hk : k < n) (h : p k = true) : 0 < cnt p n := by
  induction n with
  | zero => omega
  | succ n ih =>
    rw [cnt]
    by_cases e : k = n
    · subst e; rw [if_pos h]; omega
    · have := ih (by omega); omega
theorem cnt_pos_iff {p : Nat → Bool} {n : Nat} : 0 < cnt p n ↔ ∃ k, k < n ∧ p k = true := by
  constructor
  · intro h
    by_cases hx : ∃ k, k < n ∧ p k = true
    · exact hx
    · rw [cnt_zero (fun k hk => by cases e : p k; rfl; exact absurd ⟨k, hk, e⟩ hx)] at h
      omega
  · rintro ⟨k, hk, h⟩
    exact cnt_pos hk h
theorem cnt_one {p : Nat → Bool} {n k : Nat} (hk : k < n) (h : p k = true) (hu : ∀ j, j < n → p j = true → j = k) : cnt p n = 1 := by
  induction n with
  | zero => omega
  | succ n ih =>
    rw [cnt]
    by_cases e : k = n
    · subst e
      rw [if_pos h, cnt_zero (fun j hj => by cases e : p j; rfl; exact absurd (hu j (by omega) e) (by omega))]
    · rw [ih (by omega) (fun j hj => hu j (by omega)), if_neg (fun z => e (hu n (by omega) z).symm)]
theorem cnt_bij {p q : Nat → Bool} {n m : Nat} (R : Nat → Nat → Prop) (h1 : ∀ d, d < n → (p d = true ↔ ∃ f, f < m ∧ R d f)) (h2 : ∀ f, f < m → (q f = true ↔ ∃ d, d < n ∧ R d f)) (u1 : ∀ d f f2, d < n → f < m → f2 < m → R d f → R d f2 → f = f2) (u2 : ∀ f d d2, f < m → d < n → d2 < n → R d f → R d2 f → d = d2) : cnt p n = cnt q m := by
  classical
  rw [cnt_sm p n, cnt_sm q m]
  have e1 : sm (fun k => if p k = true then 1 else 0) n = sm (fun d => cnt (fun f => decide (R d f)) m) n := by
    refine sm_congr fun d hd => ?_
    by_cases hp : p d = true
    · obtain ⟨f, hf, hr⟩ := (h1 d hd).mp hp
      rw [if_pos hp, cnt_one hf (decide_eq_true hr) (fun j hj hj2 => u1 d j f hd hj hf (of_decide_eq_true hj2) hr)]
    · rw [if_neg hp, cnt_zero (fun f hf => decide_eq_false (fun z => hp ((h1 d hd).mpr ⟨f, hf, z⟩)))]
  have e2 : sm (fun k => if q k = true then 1 else 0) m = sm (fun f => cnt (fun d => decide (R d f)) n) m := by
    refine sm_congr fun f hf => ?_
    by_cases hp : q f = true
    · obtain ⟨d, hd, hr⟩ := (h2 f hf).mp hp
      rw [if_pos hp, cnt_one hd (decide_eq_true hr) (fun j hj hj2 => u2 f j d hf hj hd (of_decide_eq_true hj2) hr)]
    · rw [if_neg hp, cnt_zero (fun d hd => decide_eq_false (fun z => hp ((h2 f hf).mpr ⟨d, hd, z⟩)))]
  rw [e1, e2]
  exact sm_swap (fun d f => decide (R d f)) m n
theorem line_eq {b : Nat → Nat} {i : Nat} (hi : i < 25) : lineN b i = cnt (attR b i) 25 :=
  cnt_bij (Sees b i) (fun d hd => metB_iff hi hd) (fun f hf => attR_iff hi hf) (fun d f f2 hd _ _ h h2 => sees_one hi hd h h2) (fun f d d2 _ hd hd2 h h2 => sees_way hi hd hd2 h h2)
theorem covR_iff (b : Nat → Nat) (t : Nat) : ∀ n, covR b n t = true ↔ ∃ f, f < n ∧ attR b t f = true
  | 0 => ⟨fun h => (by cases h), fun ⟨f, h, _⟩ => absurd h (by omega)⟩
  | n + 1 => by
    unfold covR
    have ih := covR_iff b t n
    by_cases hw : isW (b n) = true
    · rw [if_pos hw, Bool.or_eq_true, ih]
      constructor
      · rintro (⟨f, h1, h2⟩ | h)
        · exact ⟨f, by omega, h2⟩
        · exact ⟨n, by omega, by unfold attR; rw [hw, h]; rfl⟩
      · rintro ⟨f, h1, h2⟩
        by_cases e : f = n
        · subst e
          unfold attR at h2
          rw [Bool.and_eq_true] at h2
          exact Or.inr h2.2
        · exact Or.inl ⟨f, by omega, h2⟩
    · rw [if_neg hw, ih]
      constructor
      · rintro ⟨f, h1, h2⟩
        exact ⟨f, by omega, h2⟩
      · rintro ⟨f, h1, h2⟩
        by_cases e : f = n
        · subst e
          unfold attR at h2
          rw [Bool.and_eq_true] at h2
          exact absurd h2.1 hw
        · exact ⟨f, by omega, h2⟩
theorem cov_line {b : Nat → Nat} {t : Nat} (ht : t < 25) : covR b 25 t = decide (0 < lineN b t) := by
  rw [Bool.eq_iff_iff, decide_eq_true_eq, line_eq ht, cnt_pos_iff, covR_iff]
/-! what stands on a square doesn't matter to what attacks it -/
def dsOk (i d k : Nat) : Bool := match posM i d (k + 1) with
  | none => true
  | some q => decide (q ≠ i)
theorem dsOk_all : ∀ (i : Fin 25) (d : Fin 16) (k : Fin 5), dsOk i d k = true := by decide +kernel
theorem pos_ne {i d k q : Nat} (hi : i < 25) (hd : d < 16) (h0 : 0 < k) (hk : k ≤ 5) (h : posM i d k = some q) : q ≠ i := by
  have h1 : dsOk i d (k - 1) = true := dsOk_all ⟨i, hi⟩ ⟨d, hd⟩ ⟨k - 1, by omega⟩
  unfold dsOk at h1
  rw [show k - 1 + 1 = k by omega, h] at h1
  exact of_decide_eq_true h1
theorem hits_src {b : Nat → Nat} {i d k t v : Nat} (hi : i < 25) (hd : d < 16) (hk : k ≤ 5) : Hits (up b i v) i d 0 k t ↔ Hits b i d 0 k t := by
  unfold Hits
  constructor
  · rintro ⟨h1, h2⟩
    refine ⟨h1, fun g g1 g2 q hq => ?_⟩
    have := h2 g g1 g2 q hq
    rwa [up_ne _ (pos_ne hi hd g1 (by omega) hq)] at this
  · rintro ⟨h1, h2⟩
    refine ⟨h1, fun g g1 g2 q hq => ?_⟩
    rw [up_ne _ (pos_ne hi hd g1 (by omega) hq)]
    exact h2 g g1 g2 q hq
theorem sees_src {b : Nat → Nat} {i d t v : Nat} (hi : i < 25) (hd : d < 16) : Sees (up b i v) i d t ↔ Sees b i d t := by
  unfold Sees
  have hs := stp_le d
  constructor
  · rintro ⟨k, h1, h2, h3, h4⟩
    refine ⟨k, h1, h2, (hits_src hi hd (by omega)).mp h3, ?_⟩
    rwa [up_ne _ (pos_ne hi hd h1 (by omega) h3.1)] at h4
  · rintro ⟨k, h1, h2, h3, h4⟩
    refine ⟨k, h1, h2, (hits_src hi hd (by omega)).mpr h3, ?_⟩
    rw [up_ne _ (pos_ne hi hd h1 (by omega) h3.1)]
    exact h4
theorem line_src {b : Nat → Nat} {i v : Nat} (hi : i < 25) : lineN (up b i v) i = lineN b i := by
  refine cnt_congr fun d hd => ?_
  rw [Bool.eq_iff_iff, metB_iff hi hd, metB_iff hi hd]
  constructor
  · rintro ⟨t, h1, h2⟩
    exact ⟨t, h1, (sees_src hi hd).mp h2⟩
  · rintro ⟨t, h1, h2⟩
    exact ⟨t, h1, (sees_src hi hd).mpr h2⟩
theorem pos4_all : ∀ (i : Fin 25) (d : Fin 16), posM i d 5 = none := by decide +kernel
/-! the reference's way of counting is the line's -/
theorem awI_1 {s : Nat → Nat} (hs : ∀ i, i < 25 → s i < 8) {i d v : Nat} (hi : i < 25) (hd : d < 16) (hv : v < 8) : awI s i d 1 = nI v ↔ ∃ t, posM i d 1 = some t ∧ s t = v := by
  unfold awI
  cases e : posM i d 1 with
  | none =>
    refine ⟨fun h => ?_, fun ⟨t, h, _⟩ => (by cases h)⟩
    have : ∀ v : Fin 8, (-1 : Int32) ≠ nI v := by decide +kernel
    exact absurd h (this ⟨v, hv⟩)
  | some t =>
    have ht := hs t (posM_lt hi hd (by omega) e)
    simp only []
    rw [nI_eq (by omega) (by omega)]
    exact ⟨fun h => ⟨t, rfl, h⟩, fun ⟨t2, h, h2⟩ => by injection h with h; rw [h]; exact h2⟩
theorem fsD_zero {s : Nat → Nat} {i d : Nat} (hi : i < 25) (hd : d < 16) : ∀ n f : Nat, 0 < f → f + n ≤ 6 → fsD s i d n f = 0 → ∀ g, f ≤ g → g < f + n → ∀ q, posM i d g = some q → s q = 0
  | 0, f, h0, hn, h, g, g1, g2, q, hq => absurd g1 (by omega)
  | n + 1, f, h0, hn, h, g, g1, g2, q, hq => by
    unfold fsD at h
    cases e : posM i d f with
    | none =>
      have := pos_none_le hi hd e g1 (by omega)
      rw [hq] at this
      cases this
    | some y =>
      rw [e] at h
      simp only [] at h
      by_cases hy : s y = 0
      · rw [if_pos hy] at h
        by_cases hg : g = f
        · subst hg
          rw [e] at hq
          injection hq with hq
          rw [← hq]; exact hy
        · exact fsD_zero hi hd n (f + 1) (by omega) (by omega) h g (by omega) (by omega) q hq
      · rw [if_neg hy] at h
        omega
theorem fst_hits {b : Nat → Nat} {i d : Nat} (hi : i < 25) (hd : d < 8) (hf : ¬ fst b i d = 0) : ∃ q, Hits b i d 0 (fst b i d) q ∧ b q ≠ 0 ∧ fst b i d ≤ 4 := by
  obtain ⟨h1, h2, q, hq, hq2⟩ := fsD_ok (s := b) (i := i) (d := d) (n := 5) (f := 1) (k := fst b i d) rfl hf
  have h5 : posM i d 5 = none := pos5 ⟨i, hi⟩ ⟨d, hd⟩
  have h4 : fst b i d ≠ 5 := by intro e; rw [e, h5] at hq; cases hq
  exact ⟨q, ⟨hq, (fst_iff hi (by omega) (by omega) (by omega) hq).mp (Or.inr (Nat.le_refl _))⟩, hq2, by omega⟩
theorem fst_first {b : Nat → Nat} {i d k t : Nat} (hi : i < 25) (hd : d < 16) (h0 : 0 < k) (hk : k ≤ 4) (h : Hits b i d 0 k t) (ht : b t ≠ 0) : fst b i d = k := by
  have h1 := (fst_iff (s := b) hi hd h0 (by omega) h.1).mpr h.2
  have h2 : fst b i d ≠ 0 := by
    intro e
    exact ht (fsD_zero hi hd 5 1 (by omega) (by omega) e k (by omega) (by omega) t h.1)
  obtain ⟨a1, a2, q, hq, hq2⟩ := fsD_ok (s := b) (i := i) (d := d) (n := 5) (f := 1) (k := fst b i d) rfl h2
  by_cases e : fst b i d = k
  · exact e
  · exact absurd ((fst_iff hi hd (by omega) (by omega) hq).mp (Or.inr (Nat.le_refl _)) k h0 (by omega) t h.1) ht
theorem dirO_sur : ∀ d : Fin 16, ∃ k : Fin 25, dirO (k.val / 5) (k.val % 5) = d := by decide +kernel
theorem dirO_inj : ∀ k j : Fin 25, dirO (k.val / 5) (k.val % 5) = dirO (j.val / 5) (j.val % 5) → dirO (k.val / 5) (k.val % 5) < 16 → k = j := by decide +kernel
theorem dirO_le : ∀ k : Fin 25, dirO (k.val / 5) (k.val % 5) ≤ 16 := by decide +kernel
theorem off_cnt (m : Nat → Bool) (h : m 16 = false) : cnt (fun k => m (dirO (k / 5) (k % 5))) 25 = cnt m 16 := by
  refine cnt_bij (fun k d => m d = true ∧ dirO (k / 5) (k % 5) = d) (fun k hk => ?_) (fun d hd => ?_) (fun k d d2 _ _ _ h1 h2 => h1.2.symm.trans h2.2) (fun d k k2 hd hk hk2 h1 h2 => ?_)
  · constructor
    · intro hm
      have hle := dirO_le ⟨k, hk⟩
      refine ⟨dirO (k / 5) (k % 5), ?_, hm, rfl⟩
      rcases Nat.lt_or_ge (dirO (k / 5) (k % 5)) 16 with z | z
      · exact z
      · simp only [] at hle
        have e : dirO (k / 5) (k % 5) = 16 := by omega
        rw [e, h] at hm
        cases hm
    · rintro ⟨d, -, hm, e⟩
      simp only [e]
      exact hm
  · constructor
    · intro hm
      obtain ⟨k, hk⟩ := dirO_sur ⟨d, hd⟩
      exact ⟨k, k.2, hm, hk⟩
    · rintro ⟨k, -, hm, -⟩
      exact hm
  · have e := dirO_inj ⟨k, hk⟩ ⟨k2, hk2⟩ (h1.2.trans h2.2.symm) (by simp only []; rw [h1.2]; exact hd)
    injection e
theorem metM_eq {b : Nat → Nat} (hb : ∀ i, i < 25 → b i < 8) {i d : Nat} (hi : i < 25) (hd : d < 16) : metM b i d = metB b i d := by
  rw [Bool.eq_iff_iff, metB_iff hi hd]
  unfold metM
  by_cases h8 : d < 8
  · rw [if_pos h8, decide_eq_true_eq]
    have hst : stp d = 4 := by unfold stp; rw [if_pos h8]
    by_cases hf : fst b i d = 0
    · have hk0 : fsK b i d = 0 := by unfold fsK; rw [if_pos hf]
      constructor
      · intro h
        rw [hk0] at h
        exfalso
        split at h <;> omega
      · rintro ⟨t, -, k, h1, h2, h3, h4⟩
        have := fst_first hi hd h1 (by omega) h3 (along_ne h4).1
        omega
    · obtain ⟨q, q1, q2, q3⟩ := fst_hits hi h8 hf
      have hk0 : fsK b i d = b q := by unfold fsK; rw [if_neg hf, q1.1]
      have hiff : (b q = 2 ∨ b q = (if d < 4 then 3 else 4) ∨ b q = 1 ∧ fst b i d = 1) ↔ along (b q) d (fst b i d - 1) = true := by
        unfold along
        rw [decide_eq_true_eq]
        split <;> omega
      rw [hk0, hiff]
      constructor
      · intro h
        exact ⟨q, posM_lt hi hd (by omega) q1.1, fst b i d, by omega, by omega, q1, h⟩
      · rintro ⟨t, -, k, h1, h2, h3, h4⟩
        have hk := fst_first hi hd h1 (by omega) h3 (along_ne h4).1
        rw [hk] at q1 ⊢
        have := h3.1
        rw [q1.1] at this
        injection this with this
        rw [this]
        exact h4
  · rw [if_neg h8, if_pos hd, decide_eq_true_eq, awI_1 hb hi hd (by decide)]
    have hst : stp d = 1 := by unfold stp; rw [if_neg h8]
    constructor
    · rintro ⟨t, h1, h2⟩
      refine ⟨t, posM_lt hi hd (by omega) h1, 1, by omega, by omega, ⟨h1, fun g g1 g2 => absurd g1 (by omega)⟩, ?_⟩
      unfold along
      exact decide_eq_true (Or.inl ⟨by omega, h2⟩)
    · rintro ⟨t, -, k, h1, h2, h3, h4⟩
      have hk : k = 1 := by omega
      subst hk
      refine ⟨t, h3.1, ?_⟩
      unfold along at h4
      have := of_decide_eq_true h4
      omega
theorem attM_eq {b : Nat → Nat} (hb : ∀ i, i < 25 → b i < 8) {i : Nat} (hi : i < 25) : attM b i = lineN b i := by
  have h := off_cnt (metM b i) (by unfold metM; rw [if_neg (by omega), if_neg (by omega)])
  unfold attM
  rw [show mmS b i = (fun k => metM b i (dirO (k / 5) (k % 5))) from rfl, h]
  exact cnt_congr fun d hd => metM_eq hb hi hd
