/-! the answers of both are one (pure) -/
theorem sumc_congr {S S2 : Nat → Nat → Bool} : ∀ n, (∀ f, f < n → cnt (S f) 25 = cnt (S2 f) 25) → sumc S n = sumc S2 n
  | 0, _ => rfl
  | n + 1, h => by rw [sumc, sumc, sumc_congr n (fun f hf => h f (by omega)), h n (by omega)]
theorem cnt_false : ∀ n, cnt (fun _ => false) n = 0
  | 0 => rfl
  | n + 1 => by rw [cnt, cnt_false n]; rfl
theorem sumc_one {S : Nat → Nat → Bool} {m : Nat} : ∀ n, sumc (selC S m) n = if m < n then cnt (S m) 25 else 0
  | 0 => by rw [if_neg (by omega)]; rfl
  | n + 1 => by
    rw [sumc, sumc_one n]
    by_cases e : n = m
    · subst e
      rw [if_neg (by omega), if_pos (by omega), Nat.zero_add]
      exact cnt_congr fun k _ => by unfold selC; rw [decide_eq_true rfl, Bool.true_and]
    · have h0 : cnt (selC S m n) 25 = 0 := (cnt_congr fun k _ => by unfold selC; rw [decide_eq_false e, Bool.false_and]).trans (cnt_false 25)
      rw [h0, Nat.add_zero]
      by_cases z : m < n
      · rw [if_pos z, if_pos (by omega)]
      · rw [if_neg z, if_neg (by omega)]
theorem selC_len {b : Nat → Nat} {m : Nat} (hm : m < 25) : (preL (selC (selB b 3) m) 25).length = cnt (keyP b m) 25 := by
  rw [preL_len, sumc_one, if_pos hm]
  exact cnt_congr fun t ht => sel_key ht
theorem tlI_at (b : Nat → Nat) (f k : Nat) : ∀ n (u : Nat → Nat), tlI b f n u k = u k + cnt (selB b k f) n
  | 0, u => rfl
  | n + 1, u => by
    have ih := tlI_at b f k n u
    simp only [tlI]
    rw [cnt]
    by_cases hm : movP b f n = true
    · rw [if_pos hm]
      by_cases hk : kindB (aft b f n) = k
      · subst hk
        rw [up_at, ih, if_pos (by unfold selB; rw [hm, decide_eq_true rfl]; rfl)]
        omega
      · rw [up_ne _ (fun z => hk z.symm), ih, if_neg (by unfold selB; rw [hm, decide_eq_false hk]; decide)]
        omega
    · rw [if_neg hm, ih, if_neg (by unfold selB; intro z; rw [Bool.and_eq_true] at z; exact hm z.1)]
      omega
theorem tlO_at (b : Nat → Nat) (k : Nat) : ∀ n (u : Nat → Nat), tlO b n u k = u k + sumc (selB b k) n
  | 0, u => rfl
  | n + 1, u => by rw [tlO, tlI_at, tlO_at b k n u, sumc]; omega
theorem tally_at (b ta : Nat → Nat) {k : Nat} (hk : k ≤ 3) : tlO b 25 (zt ta 4) k = sumc (selB b k) 25 := by
  rw [tlO_at]
  have : zt ta 4 k = 0 := by unfold zt; rw [if_pos (by omega)]
  omega
theorem cnt_kinds (b : Nat → Nat) (f : Nat) : ∀ n, cnt (movP b f) n = cnt (selB b 3 f) n + cnt (selB b 2 f) n + cnt (selB b 1 f) n + cnt (selB b 0 f) n
  | 0 => rfl
  | n + 1 => by
    have ih := cnt_kinds b f n
    have h3 := kindB_le (aft b f n)
    simp only [cnt]
    have hs : ∀ k, selB b k f n = (movP b f n && decide (kindB (aft b f n) = k)) := fun k => rfl
    rw [hs, hs, hs, hs]
    cases movP b f n
    · simp only [Bool.false_and, Bool.false_eq_true, if_false]; omega
    · simp only [Bool.true_and, decide_eq_true_eq]
      have h4 : kindB (aft b f n) = 0 ∨ kindB (aft b f n) = 1 ∨ kindB (aft b f n) = 2 ∨ kindB (aft b f n) = 3 := by omega
      rcases h4 with e | e | e | e <;> rw [e] <;> simp <;> omega
theorem sumc_kinds (b : Nat → Nat) : ∀ n, sumc (movP b) n = sumc (selB b 3) n + sumc (selB b 2) n + sumc (selB b 1) n + sumc (selB b 0) n
  | 0 => rfl
  | n + 1 => by
    have ih := sumc_kinds b n
    have h := cnt_kinds b n 25
    simp only [sumc]
    omega
theorem tally_tot (b ta : Nat → Nat) : tot (tlO b 25 (zt ta 4)) = sumc (movP b) 25 := by
  unfold tot
  rw [tally_at b ta (Nat.le_refl 3), tally_at b ta (show 2 ≤ 3 by decide), tally_at b ta (show 1 ≤ 3 by decide), tally_at b ta (show 0 ≤ 3 by decide), sumc_kinds b 25]
theorem low_congr {p q : Nat → Bool} : ∀ n i, (∀ k, i ≤ k → k < i + n → p k = q k) → low p n i = low q n i
  | 0, i, _ => rfl
  | n + 1, i, h => by rw [low, low, h i (Nat.le_refl _) (by omega), low_congr n (i + 1) (fun k h1 h2 => h k (by omega) (by omega))]
theorem mcR_at {b mc : Nat → Nat} : ∀ n k, mcR b mc n k = if k < n then mcB b k else mc k
  | 0, k => by rw [if_neg (by omega)]; rfl
  | n + 1, k => by
    have ih := mcR_at (b := b) (mc := mc) n k
    simp only [mcR]
    by_cases e : k = n
    · subst e; rw [up_at, if_pos (by omega)]; rfl
    · rw [up_ne _ e, ih]
      by_cases z : k < n
      · rw [if_pos z, if_pos (by omega)]
      · rw [if_neg z, if_neg (by omega)]
theorem rank_eq {b mc : Nat → Nat} {x : Int32} : low (rkS b (mcR b mc 25) x) 25 0 = low (rkS b (mcB b) x) 25 0 := by
  have hm : ∀ k, k < 25 → mcR b mc 25 k = mcB b k := fun k hk => by rw [mcR_at, if_pos hk]
  generalize mcR b mc 25 = m at hm
  refine low_congr 25 0 fun k _ hk => ?_
  have e : ahd b m k = ahd b (mcB b) k := by
    unfold ahd
    refine cnt_congr fun o ho => ?_
    unfold ahdS
    rw [hm k (by omega), hm o ho]
  unfold rkS
  rw [e]
theorem wNo_king {b : Nat → Nat} (h : fitsB b = true) : wNo b < menN b := by
  obtain ⟨k, hl⟩ := fits_loc h
  obtain ⟨hk, h7⟩ := loc7_some hl
  refine cnt_ltq (i := k) 25 (fun j _ hj => ?_) hk ?_ ?_
  · unfold isW at hj
    unfold ckS
    rw [Bool.and_eq_true, decide_eq_true_eq, decide_eq_true_eq] at hj
    exact decide_eq_true ⟨hj.1, by omega⟩
  · show isW (b k) = false
    rw [h7]; rfl
  · unfold ckS; rw [h7]; rfl
theorem would_w {a : qP} (hg : PG a) {i k : Nat} (hf : fitsB (up a.1 i k) = true) : wNo (up a.1 i k) ≤ 12 := by
  have h1 := wNo_king hf
  have h2 := menN_up1 (b := a.1) (i := i) (v := k)
  have h3 := hg.2.2.2
  omega
theorem isK_or {m : Nat} : isK m = true ↔ m = 1 ∨ m = 7 := by unfold isK; rw [Bool.or_eq_true, decide_eq_true_eq, decide_eq_true_eq]
theorem inB0_out {x : Int32} {m : Nat} (hm : m < 2147483648) : inB x (nI 0) (nI m) = false ↔ x < 0 ∨ nI m < x := by
  unfold inB
  show (!decide (x < 0) && !decide (nI m < x)) = false ↔ _
  by_cases h1 : x < 0 <;> by_cases h2 : nI m < x <;> simp [h1, h2]
theorem in_cases (x : Int32) (m : Nat) (hm : m < 2147483648) : (x < 0 ∨ nI m < x) ∨ ∃ k, k ≤ m ∧ x = nI k := by
  by_cases h : x < 0 ∨ nI m < x
  · exact Or.inl h
  · obtain ⟨k, hk, rfl⟩ := nI_of (fun z => h (Or.inl z))
    refine Or.inr ⟨k, ?_, rfl⟩
    rcases Nat.lt_or_ge m k with q | q
    · exact absurd (Or.inr ((nI_ltI hm hk).mpr q)) h
    · exact q
theorem lt_le1 {x : Int32} {n : Nat} (hn : n + 1 < 2147483648) : nI (n + 1) ≤ x ↔ nI n < x := (i32_lt1 hn).symm
theorem thrift_any {a c : qP} {Tk : Nat → Int32} (hg : PG a) (i : Nat) (hf : fitsB a.1 = true) : csP a.1 (keyP a.1) (tkF a.1 Tk) i = spR a.1 i :=
  spR_eq hg.1.1 (tkF_at a.1 Tk) rfl i
