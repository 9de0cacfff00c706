/-! the two lists of moves are one, what can be spared is the same -/
theorem rowL_pre (S : Nat → Nat → Bool) (f : Nat) : ∀ n t, preRow S f t ++ rowL S f n t = preRow S f (t + n)
  | 0, t => by rw [rowL, List.append_nil, Nat.add_zero]
  | n + 1, t => by
    have ih := rowL_pre S f n (t + 1)
    rw [preRow] at ih
    rw [rowL, show t + (n + 1) = t + 1 + n by omega, ← ih]
    by_cases h : S f t = true
    · rw [if_pos h, if_pos h, List.append_assoc]; rfl
    · rw [if_neg h, if_neg h, List.append_nil]
theorem allL_pre (S : Nat → Nat → Bool) : ∀ n f, preL S f ++ allL S n f = preL S (f + n)
  | 0, f => by rw [allL, List.append_nil, Nat.add_zero]
  | n + 1, f => by
    have ih := allL_pre S n (f + 1)
    have hr := rowL_pre S f 25 0
    rw [preRow, List.nil_append, Nat.zero_add] at hr
    rw [preL] at ih
    rw [allL, hr, show f + (n + 1) = f + 1 + n by omega, ← ih, List.append_assoc]
theorem preL_all (S : Nat → Nat → Bool) : preL S 25 = allL S 25 0 := by
  have h := allL_pre S 25 0
  rw [preL, List.nil_append, Nat.zero_add] at h
  exact h.symm
theorem preRow_len (S : Nat → Nat → Bool) (f : Nat) : ∀ t, (preRow S f t).length = cnt (S f) t
  | 0 => rfl
  | t + 1 => by
    rw [preRow, List.length_append, preRow_len S f t, cnt]
    by_cases h : S f t = true
    · rw [if_pos h, if_pos h]; rfl
    · rw [if_neg h, if_neg h]; rfl
theorem preL_len (S : Nat → Nat → Bool) : ∀ f, (preL S f).length = sumc S f
  | 0 => rfl
  | f + 1 => by rw [preL, List.length_append, preL_len S f, preRow_len, sumc]
theorem preRow_congr {S S2 : Nat → Nat → Bool} {f : Nat} : ∀ n, (∀ t, t < n → S f t = S2 f t) → preRow S f n = preRow S2 f n
  | 0, _ => rfl
  | n + 1, h => by rw [preRow, preRow, preRow_congr n (fun t ht => h t (by omega)), h n (by omega)]
theorem preL_congr {S S2 : Nat → Nat → Bool} : ∀ n, (∀ f t, f < n → t < 25 → S f t = S2 f t) → preL S n = preL S2 n
  | 0, _ => rfl
  | n + 1, h => by rw [preL, preL, preL_congr n (fun f t hf ht => h f t (by omega) ht), preRow_congr 25 (fun t ht => h n t (by omega) ht)]
theorem preRow_mem {S : Nat → Nat → Bool} {f x : Nat} : ∀ n, x ∈ preRow S f n ↔ ∃ t, t < n ∧ S f t = true ∧ x = 100 * f + t
  | 0 => ⟨fun h => (by cases h), fun ⟨t, ht, _⟩ => absurd ht (by omega)⟩
  | n + 1 => by
    rw [preRow, List.mem_append, preRow_mem n]
    constructor
    · rintro (⟨t, h1, h2, h3⟩ | h)
      · exact ⟨t, by omega, h2, h3⟩
      · split at h
        · rw [List.mem_singleton] at h; exact ⟨n, by omega, by assumption, h⟩
        · cases h
    · rintro ⟨t, h1, h2, h3⟩
      by_cases e : t = n
      · subst e; right; rw [if_pos h2, h3]; exact List.mem_singleton.mpr rfl
      · exact Or.inl ⟨t, by omega, h2, h3⟩
theorem preL_mem {S : Nat → Nat → Bool} {x : Nat} : ∀ n, x ∈ preL S n ↔ ∃ f t, f < n ∧ t < 25 ∧ S f t = true ∧ x = 100 * f + t
  | 0 => ⟨fun h => (by cases h), fun ⟨f, t, hf, _⟩ => absurd hf (by omega)⟩
  | n + 1 => by
    rw [preL, List.mem_append, preL_mem n, preRow_mem]
    constructor
    · rintro (⟨f, t, h1, h2, h3, h4⟩ | ⟨t, h1, h2, h3⟩)
      · exact ⟨f, t, by omega, h2, h3, h4⟩
      · exact ⟨n, t, by omega, h1, h2, h3⟩
    · rintro ⟨f, t, h1, h2, h3, h4⟩
      by_cases e : f = n
      · subst e; exact Or.inr ⟨t, h2, h3, h4⟩
      · exact Or.inl ⟨f, t, by omega, h2, h3, h4⟩
theorem keyR_iff {b : Nat → Nat} {f t : Nat} : ∀ n, keyR b f n t = true ↔ t < n ∧ movP b f t = true ∧ isKey b f t = true
  | 0 => ⟨fun h => (by cases h), fun h => absurd h.1 (by omega)⟩
  | n + 1 => by
    have ih := keyR_iff (b := b) (f := f) (t := t) n
    rw [keyR]
    by_cases h : movP b f n = true ∧ isKey b f n = true
    · rw [if_pos h, Bool.or_eq_true, ih]
      unfold one
      rw [decide_eq_true_eq]
      constructor
      · rintro (h1 | h1)
        · exact ⟨by omega, h1.2⟩
        · subst h1; exact ⟨by omega, h⟩
      · rintro ⟨h1, h2⟩
        by_cases e : t = n
        · exact Or.inr e
        · exact Or.inl ⟨by omega, h2⟩
    · rw [if_neg h, ih]
      constructor
      · rintro ⟨h1, h2⟩
        exact ⟨by omega, h2⟩
      · rintro ⟨h1, h2⟩
        by_cases e : t = n
        · subst e; exact absurd h2 h
        · exact ⟨by omega, h2⟩
theorem kind3 {b : Nat → Nat} : kindB b = 3 ↔ (chkP b && nob (escP b)) = true := by
  unfold kindB
  cases chkP b <;> cases nob (escP b) <;> decide
theorem sel_key {b : Nat → Nat} {f t : Nat} (ht : t < 25) : selB b 3 f t = keyP b f t := by
  rw [Bool.eq_iff_iff]
  unfold selB keyP
  rw [Bool.and_eq_true, decide_eq_true_eq, kind3, keyR_iff 25]
  exact ⟨fun h => ⟨ht, h.1, h.2⟩, fun h => ⟨h.2.1, h.2.2⟩⟩
theorem keyL_all (b : Nat → Nat) : keyL b = allL (keyP b) 25 0 := by
  unfold keyL
  rw [preL_congr 25 (fun f t _ ht => sel_key ht), preL_all]
theorem keyL_len (b : Nat → Nat) : (keyL b).length = sumc (keyP b) 25 := by
  unfold keyL
  rw [preL_congr 25 (fun f t _ ht => sel_key ht), preL_len]
theorem keyL_mem {b : Nat → Nat} {f t : Nat} (hf : f < 25) (ht : t < 25) : 100 * f + t ∈ keyL b ↔ keyP b f t = true := by
  unfold keyL
  rw [preL_mem]
  constructor
  · rintro ⟨f2, t2, h1, h2, h3, h4⟩
    have e1 : f2 = f := by omega
    have e2 : t2 = t := by omega
    subst e1 e2
    rw [← sel_key h2]; exact h3
  · intro h
    exact ⟨f, t, hf, ht, by rw [sel_key ht]; exact h, rfl⟩
theorem keyL_iff {b b2 : Nat → Nat} : keyL b = keyL b2 ↔ ∀ f, f < 25 → mask (keyP b f) = mask (keyP b2 f) := by
  constructor
  · intro h f hf
    refine mask_congr fun t ht => ?_
    rw [Bool.eq_iff_iff, ← keyL_mem hf ht, ← keyL_mem hf ht, h]
  · intro h
    unfold keyL
    refine preL_congr 25 fun f t hf ht => ?_
    rw [sel_key ht, sel_key ht]
    exact mask_inj (h f hf) t ht
theorem allB_iff {p : Nat → Bool} : ∀ n, allB p n = true ↔ ∀ k, k < n → p k = true
  | 0 => ⟨fun _ k hk => absurd hk (by omega), fun _ => rfl⟩
  | n + 1 => by
    rw [allB, Bool.and_eq_true, allB_iff n]
    constructor
    · rintro ⟨h1, h2⟩ k hk
      by_cases e : k = n
      · subst e; exact h2
      · exact h1 k (by omega)
    · intro h
      exact ⟨fun k hk => h k (by omega), h n (by omega)⟩
theorem list_iff {l m : List Nat} : (l.length = m.length ∧ allB (fun j => decide (l.getD j 0 = m.getD j 0)) m.length = true) ↔ l = m := by
  constructor
  · rintro ⟨h1, h2⟩
    rw [allB_iff] at h2
    refine List.ext_getElem h1 fun k hk hk2 => ?_
    have := h2 k hk2
    rw [decide_eq_true_eq, List.getD_eq_getElem?_getD, List.getD_eq_getElem?_getD, List.getElem?_eq_getElem hk, List.getElem?_eq_getElem hk2] at this
    exact this
  · intro h
    subst h
    exact ⟨rfl, (allB_iff _).mpr fun k hk => decide_eq_true rfl⟩
theorem spR_eq {b : Nat → Nat} {S : Nat → Nat → Bool} {Tk : Nat → Int32} (hb : ∀ i, b i < 8) (hT : ∀ f, f < 25 → Tk f = mask (keyP b f)) (hS : sumc S 25 = sumc (keyP b) 25) (i : Nat) : csP b S Tk i = spR b i := by
  rw [Bool.eq_iff_iff]
  unfold csP csQ csE spR spQ spE
  simp only [Bool.and_eq_true, decide_eq_true_eq, Bool.not_eq_true']
  rw [list_iff, keyL_len, hS, keyL_iff, allB_iff]
  simp only [decide_eq_true_eq]
  have hbi := hb i
  unfold isK
  constructor
  · rintro ⟨⟨⟨⟨h1, h2⟩, h3⟩, h4⟩, h5⟩
    rw [Bool.or_eq_false_iff, decide_eq_false_iff_not, decide_eq_false_iff_not] at h2
    have hk : keyL (up b i 0) = keyL b := keyL_iff.mpr fun f hf => (h5 f hf).trans (hT f hf)
    refine ⟨⟨⟨by omega, h3⟩, ?_⟩, h4, fun f hf => (h5 f hf).trans (hT f hf)⟩
    intro e
    have hl : 0 < (keyL b).length := by rw [keyL_len]; omega
    have hm : (keyL b).getD 0 0 ∈ keyL b := by
      rw [List.getD_eq_getElem?_getD, List.getElem?_eq_getElem hl]
      exact List.getElem_mem hl
    rw [← hk] at hm
    have hm2 := (preL_mem (S := selB (up b i 0) 3) 25).mp hm
    obtain ⟨f, t, hf, ht, h6, h7⟩ := hm2
    have h8 := sel_w h6
    rw [hk] at h7
    have : f = i := by omega
    subst this
    rw [up_at] at h8
    cases h8
  · rintro ⟨⟨⟨h1, h3⟩, h2⟩, h4, h5⟩
    refine ⟨⟨⟨⟨by omega, ?_⟩, h3⟩, h4⟩, fun f hf => (h5 f hf).trans (hT f hf).symm⟩
    rw [Bool.or_eq_false_iff, decide_eq_false_iff_not, decide_eq_false_iff_not]
    omega
