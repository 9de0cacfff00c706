/-! what holds of every position is kept by the changes (pure) -/
theorem loc7_neg {b : Nat → Nat} {v : Nat} (h : loc7 b v = none) : ∀ i, i < 25 → b i ≠ v := loc7_none h
theorem menN_up1 {b : Nat → Nat} {i v : Nat} : menN (up b i v) ≤ menN b + 1 := by
  have h : ∀ n, cnt (ckS (up b i v) 1 7) n ≤ cnt (ckS b 1 7) n + (if i < n then 1 else 0) := by
    intro n
    induction n with
    | zero => exact Nat.zero_le _
    | succ n ih =>
      rw [cnt, cnt]
      by_cases e : n = i
      · subst e
        (repeat' split at ih) <;> (repeat' split) <;> omega
      · have e2 : ckS (up b i v) 1 7 n = ckS b 1 7 n := by unfold ckS; rw [up_ne _ e]
        rw [e2]
        (repeat' split at ih) <;> (repeat' split) <;> omega
  have h2 := h 25
  refine Nat.le_trans h2 ?_
  split
  · exact Nat.le_refl _
  · exact Nat.le_succ _
theorem menN_up0' {b : Nat → Nat} {i : Nat} : menN (up b i 0) ≤ menN b := by
  refine cnt_leq 25 fun k hk h => ?_
  unfold ckS at h ⊢
  by_cases e : k = i
  · subst e; rw [up_at] at h; cases h
  · rw [up_ne _ e] at h; exact h
theorem Uq_new {b : Nat → Nat} {v i : Nat} (h : ∀ j, j < 25 → b j ≠ v) : Uq (up b i v) v := by
  intro x y hx hy e1 e2
  have f : ∀ z, z < 25 → up b i v z = v → z = i := by
    intro z hz e
    by_cases a : z = i
    · exact a
    · rw [up_ne _ a] at e; exact absurd e (h z hz)
  exact (f x hx e1).trans (f y hy e2).symm
theorem ckS_eq {b b2 : Nat → Nat} {k j : Nat} (h : b k = b2 j) : ckS b 1 7 k = ckS b2 1 7 j := by unfold ckS; rw [h]
theorem PG.mk {a : qP} (h1 : Bd a.1) (h2 : Uq a.1 1) (h3 : Uq a.1 7) (h4 : menN a.1 ≤ 12) : PG a := ⟨h1, h2, h3, h4⟩
theorem putC_PG {a : qP} {v i : Nat} (hg : PG a) (hv : v ≤ 7) (hi : i < 25) : PG (putC a v i).2.2 := by
  unfold putC
  split
  · exact hg
  · split
    · exact hg
    · rename_i h2
      split
      · exact hg
      · rename_i h3
        have hu : ∀ u, u = 1 ∨ u = 7 → Uq (up a.1 i v) u := by
          intro u hu
          by_cases e : v = u
          · subst e
            refine Uq_new (loc7_none ?_)
            cases el : loc7 a.1 v with
            | none => rfl
            | some j => exact absurd ⟨by unfold isK; rw [Bool.or_eq_true, decide_eq_true_eq, decide_eq_true_eq]; exact hu, by rw [el]; exact fun z => by cases z⟩ h2
          · exact Uq_up (hg.u u hu) e
        refine ⟨hg.1.up hi (by omega), hu 1 (Or.inl rfl), hu 7 (Or.inr rfl), ?_⟩
        have := menN_up1 (b := a.1) (i := i) (v := v)
        show menN (up a.1 i v) ≤ 12
        omega
theorem putF_PG {a : qP} {x y : Int32} (hg : PG a) : PG (putF a x y).2.2 := by
  unfold putF
  rcases isSq_cases y with hy | ⟨i, hi, rfl⟩
  · rw [if_pos hy]; exact hg
  · rw [if_neg (isSq_in hi)]
    by_cases hx : x < nI 1 ∨ nI 7 < x
    · rw [if_pos hx]; exact hg
    · rw [if_neg hx, nI_clamp (by omega)]
      have h0 : ¬ x < 0 := fun q => hx (Or.inl (Int32.lt_trans q (by decide)))
      obtain ⟨v, hv, rfl⟩ := nI_of h0
      rw [nI_clamp hv]
      refine putC_PG hg ?_ hi
      rcases Nat.lt_or_ge 7 v with q | q
      · exact absurd (Or.inr ((nI_ltI (by decide) hv).mpr q)) hx
      · omega
theorem PG.up0 {a : qP} (hg : PG a) {i : Nat} (hi : i < 25) {t : Nat × Nat × Nat × Nat} : PG (up a.1 i 0, t) :=
  ⟨hg.1.up hi (by decide), Uq_up hg.2.1 (by decide), Uq_up hg.2.2.1 (by decide), Nat.le_trans menN_up0' hg.2.2.2⟩
theorem PG.cnt {b : Nat → Nat} {t t2 : Nat × Nat × Nat × Nat} (hg : PG (b, t)) : PG (b, t2) := hg
theorem liftF_PG {a : qP} {y : Int32} (hg : PG a) : PG (liftF a y).2.2 := by
  unfold liftF
  rcases isSq_cases y with hy | ⟨i, hi, rfl⟩
  · rw [if_pos hy]; exact hg
  · rw [if_neg (isSq_in hi), nI_clamp (by omega)]
    unfold liftC
    split
    · exact hg
    · exact hg.up0 hi
theorem aft_Uq {b : Nat → Nat} {v i j : Nat} (h : Uq b v) (hv : v ≠ 0) (hi : i < 25) (hij : i ≠ j) : Uq (aft b i j) v := by
  intro x y hx hy e1 e2
  have f : ∀ z, z < 25 → aft b i j z = v → (z = j ∧ b i = v) ∨ (z ≠ i ∧ b z = v) := by
    intro z hz e
    by_cases a : z = j
    · subst a; rw [aft_j] at e; exact Or.inl ⟨rfl, e⟩
    · by_cases c : z = i
      · subst c; rw [aft_i hij] at e; exact absurd e.symm hv
      · rw [aft_ne c a] at e; exact Or.inr ⟨c, e⟩
  rcases f x hx e1 with ⟨p1, p2⟩ | ⟨p1, p2⟩ <;> rcases f y hy e2 with ⟨q1, q2⟩ | ⟨q1, q2⟩
  · exact p1.trans q1.symm
  · exact absurd (h y i hy hi q2 p2) q1
  · exact absurd (h x i hx hi p2 q2) p1
  · exact h x y hx hy p2 q2
theorem aft_men {b : Nat → Nat} {i j : Nat} (hb : ∀ i, b i < 8) (hi : i < 25) (h0 : b i ≠ 0) : menN (aft b i j) ≤ menN b := by
  unfold aft
  have h1 := menN_up1 (b := up b i 0) (i := j) (v := b i)
  have h2 := menN_up0 hb hi h0
  omega
theorem playF_PG {a : qP} {x y : Int32} (hg : PG a) : PG (playF a x y).2.2 := by
  unfold playF
  rcases isSq_cases x with hx | ⟨i, hi, rfl⟩
  · rw [if_pos (Or.inl hx)]; exact hg
  · rcases isSq_cases y with hy | ⟨j, hj, rfl⟩
    · rw [if_pos (Or.inr hy)]; exact hg
    · rw [if_neg (fun q => q.elim (isSq_in hi) (isSq_in hj)), nI_clamp (by omega), nI_clamp (by omega)]
      unfold playC
      split
      · exact hg
      · rename_i h0
        split
        · exact hg
        · rename_i hm
          have hm2 : movP a.1 i j = true := by cases e : movP a.1 i j; exact absurd e hm; rfl
          have hij : i ≠ j := fun e => by subst e; rw [mov_self hg.1.1 hj] at hm2; cases hm2
          exact ⟨aft_Bd hg.1 hi hj, aft_Uq hg.2.1 (by decide) hi hij, aft_Uq hg.2.2.1 (by decide) hi hij, Nat.le_trans (aft_men hg.1.1 hi h0) hg.2.2.2⟩
theorem trR_at {dst : Nat → Nat} {b0 b : Nat → Nat} (hinj : ∀ i j, i < 25 → j < 25 → dst i = dst j → i = j) : ∀ n, n ≤ 25 → ∀ k, k < n → trR dst b0 b n (dst k) = b k
  | 0, _, k, h => absurd h (by omega)
  | n + 1, hn, k, h => by
    rw [trR]
    by_cases e : k = n
    · subst e; rw [up_at]
    · rw [up_ne _ (fun z => e (hinj k n (by omega) (by omega) z))]
      exact trR_at hinj n (by omega) k (by omega)
theorem dstT_inj : ∀ i j, i < 25 → j < 25 → dstT i = dstT j → i = j := by
  intro i j hi hj h
  unfold dstT at h
  omega
theorem dstM_inj : ∀ i j, i < 25 → j < 25 → dstM i = dstM j → i = j := by
  intro i j hi hj h
  unfold dstM at h
  omega
theorem turnF_PG {dst : Nat → Nat} {a : qP} (hg : PG a) (hlt : ∀ i, i < 25 → dst i < 25) (hon : ∀ j, j < 25 → ∃ k, k < 25 ∧ dst k = j) (hinj : ∀ i j, i < 25 → j < 25 → dst i = dst j → i = j) : PG (turnF dst a).2.2 := by
  have hat := trR_at (b0 := a.1) (b := a.1) hinj 25 (Nat.le_refl _)
  unfold turnF
  have hB := trR_Bd hlt hg.1 hg.1 25 (Nat.le_refl _)
  generalize trR dst a.1 a.1 25 = t at hat hB
  have hu : ∀ v, Uq a.1 v → Uq t v := by
    intro v h x y hx hy e1 e2
    obtain ⟨k, hk, rfl⟩ := hon x hx
    obtain ⟨l, hl, rfl⟩ := hon y hy
    rw [hat k hk] at e1
    rw [hat l hl] at e2
    rw [h k l hk hl e1 e2]
  refine ⟨hB, hu 1 hg.2.1, hu 7 hg.2.2.1, ?_⟩
  refine Nat.le_trans (Nat.le_of_eq ?_) hg.2.2.2
  refine cnt_bij (n := 25) (m := 25) (fun d f => d = dst f ∧ ckS a.1 1 7 f = true) ?_ ?_ ?_ ?_
  · intro d hd
    constructor
    · intro h
      obtain ⟨k, hk, rfl⟩ := hon d hd
      exact ⟨k, hk, rfl, (ckS_eq (hat k hk)).symm.trans h⟩
    · rintro ⟨f, hf, rfl, h⟩
      exact (ckS_eq (hat f hf)).trans h
  · intro f hf
    exact ⟨fun h => ⟨dst f, hlt f hf, rfl, h⟩, fun ⟨_, _, _, h⟩ => h⟩
  · intro d f f2 _ hf hf2 e1 e2
    exact hinj f f2 hf hf2 (e1.1.symm.trans e2.1)
  · intro f d d2 _ _ _ e1 e2
    exact e1.1.trans e2.1.symm
theorem thR_PG {S : Nat → Nat → Bool} {Tk : Nat → Int32} : ∀ m off (a c : qP), PG a → Bd c.1 → PG (thR S Tk m off a c).2.1
  | 0, off, a, c, h, _ => h
  | m + 1, off, a, c, h, hc => by
    rw [thR]
    obtain ⟨h1, h2⟩ := scanF_ok (a := a) (S := S) (Tk := Tk) h.1 25 (Nat.le_refl _) c hc
    cases e : (scanF a S Tk 25 c).1 with
    | none => exact h
    | some i => exact thR_PG m (off + 1) _ _ (h.up0 (h2 i e)) h1
theorem thriftF_PG {a c : qP} {Tk : Nat → Int32} (hg : PG a) (hc : Bd c.1) : PG (thriftF a c Tk).2.2 := by
  have h := thR_PG (S := keyP a.1) (Tk := tkF a.1 Tk) 12 0 a c hg hc
  unfold thriftF
  split
  · exact hg
  · split
    · exact h
    · exact h
theorem thR_le {S : Nat → Nat → Bool} {Tk : Nat → Int32} : ∀ m off (a c : qP), (thR S Tk m off a c).1 ≤ off + m
  | 0, off, a, c => Nat.le_refl _
  | m + 1, off, a, c => by
    rw [thR]
    cases (scanF a S Tk 25 c).1 with
    | none => simp only []; omega
    | some i =>
      have := thR_le (S := S) (Tk := Tk) m (off + 1) (up a.1 i 0, a.2) (scanF a S Tk 25 c).2
      simp only []
      omega
theorem thr_lt {a c : qP} {Tk : Nat → Int32} : (thr a c Tk).1 < 2147483648 := Nat.lt_of_le_of_lt (thR_le (S := keyP a.1) (Tk := tkF a.1 Tk) 12 0 a c) (by decide)
/-- a refused change says why, one that is made does not -/
theorem putF_why {a : qP} {v i : Nat} (h1 : 1 ≤ v) (h7 : v ≤ 7) (hi : i < 25) : ((putF a (nI v) (nI i)).1 < 0 → ∃ q, (putF a (nI v) (nI i)).2.1 = some q) ∧ (¬ (putF a (nI v) (nI i)).1 < 0 → (putF a (nI v) (nI i)).2.1 = none) := by
  unfold putF
  rw [if_neg (isSq_in hi), if_neg (fun z => z.elim (fun q => absurd ((nI_ltI (by omega) (by decide)).mp q) (by omega)) (fun q => absurd ((nI_ltI (by decide) (by omega)).mp q) (by omega)))]
  unfold putC
  split
  · exact ⟨fun _ => ⟨_, rfl⟩, fun z => absurd (by decide : (-3 : Int32) < 0) z⟩
  · split
    · exact ⟨fun _ => ⟨_, rfl⟩, fun z => absurd (by decide : (-3 : Int32) < 0) z⟩
    · split
      · exact ⟨fun _ => ⟨_, rfl⟩, fun z => absurd (by decide : (-3 : Int32) < 0) z⟩
      · exact ⟨fun z => absurd z (nI_pos (Nat.lt_of_le_of_lt (menN_le _) (by decide))), fun _ => rfl⟩
theorem liftF_why {a : qP} {i : Nat} (ha : ∀ i, a.1 i < 8) (hi : i < 25) : ((liftF a (nI i)).1 < 0 → ∃ q, (liftF a (nI i)).2.1 = some q) ∧ (¬ (liftF a (nI i)).1 < 0 → (liftF a (nI i)).2.1 = none) := by
  unfold liftF
  rw [if_neg (isSq_in hi)]
  unfold liftC
  split
  · exact ⟨fun _ => ⟨_, rfl⟩, fun z => absurd (by decide : (-3 : Int32) < 0) z⟩
  · exact ⟨fun z => absurd z (nI_pos (Nat.lt_trans (ha _) (by decide))), fun _ => rfl⟩
theorem playF_why {a : qP} {i j : Nat} (ha : ∀ i, a.1 i < 8) (hi : i < 25) (hj : j < 25) : ((playF a (nI i) (nI j)).1 < 0 → ∃ q, (playF a (nI i) (nI j)).2.1 = some q) ∧ (¬ (playF a (nI i) (nI j)).1 < 0 → (playF a (nI i) (nI j)).2.1 = none) := by
  unfold playF
  rw [if_neg (fun q => q.elim (isSq_in hi) (isSq_in hj))]
  unfold playC
  split
  · exact ⟨fun _ => ⟨_, rfl⟩, fun z => absurd (by decide : (-3 : Int32) < 0) z⟩
  · split
    · exact ⟨fun _ => ⟨_, rfl⟩, fun z => absurd (by decide : (-3 : Int32) < 0) z⟩
    · exact ⟨fun z => absurd z (nI_pos (Nat.lt_trans (ha _) (by decide))), fun _ => rfl⟩
theorem turnF_why {dst : Nat → Nat} {a : qP} : ((turnF dst a).1 < 0 → ∃ q, (turnF dst a).2.1 = some q) ∧ (¬ (turnF dst a).1 < 0 → (turnF dst a).2.1 = none) := by
  unfold turnF
  exact ⟨fun z => absurd z (nI_pos (Nat.lt_of_le_of_lt (menN_le _) (by decide))), fun _ => rfl⟩
theorem thriftF_why {a c : qP} {Tk : Nat → Int32} : ((thriftF a c Tk).1 < 0 → ∃ q, (thriftF a c Tk).2.1 = some q) ∧ (¬ (thriftF a c Tk).1 < 0 → (thriftF a c Tk).2.1 = none) := by
  have hl := thr_lt (a := a) (c := c) (Tk := Tk)
  unfold thriftF
  generalize thr a c Tk = z at hl
  split
  · exact ⟨fun _ => ⟨_, rfl⟩, fun z => absurd (by decide : (-3 : Int32) < 0) z⟩
  · split
    · exact ⟨fun _ => ⟨_, rfl⟩, fun z => absurd (by decide : (-3 : Int32) < 0) z⟩
    · exact ⟨fun z => absurd z (nI_pos hl), fun _ => rfl⟩
