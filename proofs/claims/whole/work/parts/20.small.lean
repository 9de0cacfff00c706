/-! small questions of MateKeys -/
def isSq (x : Int32) : Bool := !decide (x < 0) && !decide (nI 25 ≤ x)
theorem isSq_nI {i : Nat} (h : i < 2147483648) : isSq (nI i) = decide (i < 25) := by
  have h1 : ¬ nI i < 0 := nI_pos h
  by_cases h2 : i < 25
  · have h3 : ¬ nI 25 ≤ nI i := fun q => absurd ((nI_leI (by decide) h).mp q) (by omega)
    simp only [isSq, h1, h2, h3, decide_false, decide_true, Bool.not_false, Bool.and_self]
  · have h3 : nI 25 ≤ nI i := (nI_leI (by decide) h).mpr (by omega)
    simp only [isSq, h1, h2, h3, decide_false, decide_true, Bool.not_false, Bool.not_true, Bool.and_false]
theorem isSq_of {x : Int32} (h : isSq x = true) : ∃ i : Nat, i < 25 ∧ x = nI i := by
  simp only [isSq, Bool.and_eq_true, Bool.not_eq_true', decide_eq_false_iff_not] at h
  obtain ⟨j, hj, rfl⟩ := nI_of h.1
  refine ⟨j, ?_, rfl⟩
  exact Nat.lt_of_not_le (fun q => h.2 ((nI_leI (by decide) hj).mpr q))
set_option maxHeartbeats 4000000 in
set_option maxRecDepth 100000 in
theorem okX5_isSquare (x : Int32) (h : qH) : Ok MX5_isSquare [.int x] h (some (.int (qb (isSq x)))) (h) := by
  refine ok_of (by decide +kernel) (Nat.zero_le _) (Nat.le_of_ble_eq_true rfl) ?_
  intro X C E
  show Ex X MX5_isSquare 0 [(0, .int x)] [] h
  refine x_iload_n C dX5_isSquare_0 rfl ?_
  refine x_if_lt C 14 dX5_isSquare_1 (by decide) (fun c1 => ?_) (fun c1 => ?_)
  · refine x_iconst C (v := nI 0) dX5_isSquare_14 (by decide +kernel) ?_
    exact x_iret E .boolean dX5_isSquare_15 rfl rfl (by simp only [isSq, c1, decide_true, Bool.not_true, Bool.false_and]; rfl) rfl
  · refine x_iload_n C dX5_isSquare_4 rfl ?_
    refine x_bipush C (v := nI 25) dX5_isSquare_5 (by decide +kernel) ?_
    refine x_icmp_ge C 14 dX5_isSquare_7 (by decide) (fun c7 => ?_) (fun c7 => ?_)
    · refine x_iconst C (v := nI 0) dX5_isSquare_14 (by decide +kernel) ?_
      exact x_iret E .boolean dX5_isSquare_15 rfl rfl (by simp only [isSq, c1, c7, decide_true, decide_false, Bool.not_true, Bool.not_false, Bool.and_false]; rfl) rfl
    · refine x_iconst C (v := nI 1) dX5_isSquare_10 (by decide +kernel) ?_
      refine x_goto C 15 dX5_isSquare_11 (by decide) ?_
      exact x_iret E .boolean dX5_isSquare_15 rfl rfl (by simp only [isSq, c1, c7, decide_true, decide_false, Bool.not_true, Bool.not_false, Bool.and_self]; rfl) rfl
def isW (m : Nat) : Bool := decide (1 ≤ m) && decide (m ≤ 5)
set_option maxHeartbeats 4000000 in
set_option maxRecDepth 100000 in
theorem okX5_isWhite (m : Nat) (hm : m < 2147483648) (h : qH) : Ok MX5_isWhite [.int (nI m)] h (some (.int (qb (isW m)))) (h) := by
  refine ok_of (by decide +kernel) (Nat.zero_le _) (Nat.le_of_ble_eq_true rfl) ?_
  intro X C E
  show Ex X MX5_isWhite 0 [(0, .int (nI m))] [] h
  refine x_iload_n C dX5_isWhite_0 rfl ?_
  refine x_iconst C (v := nI 1) dX5_isWhite_1 (by decide +kernel) ?_
  refine x_icmp_ltN C 14 dX5_isWhite_2 (by decide) (by omega) (by omega) (fun c2 => ?_) (fun c2 => ?_)
  · refine x_iconst C (v := nI 0) dX5_isWhite_14 (by decide +kernel) ?_
    exact x_iret E .boolean dX5_isWhite_15 rfl rfl (by have e : isW m = false := (by simp [isW]; omega); rw [e]; rfl) rfl
  · refine x_iload_n C dX5_isWhite_5 rfl ?_
    refine x_iconst C (v := nI 5) dX5_isWhite_6 (by decide +kernel) ?_
    refine x_icmp_gtN C 14 dX5_isWhite_7 (by decide) (by omega) (by omega) (fun c7 => ?_) (fun c7 => ?_)
    · refine x_iconst C (v := nI 0) dX5_isWhite_14 (by decide +kernel) ?_
      exact x_iret E .boolean dX5_isWhite_15 rfl rfl (by have e : isW m = false := (by simp [isW]; omega); rw [e]; rfl) rfl
    · refine x_iconst C (v := nI 1) dX5_isWhite_10 (by decide +kernel) ?_
      refine x_goto C 15 dX5_isWhite_11 (by decide) ?_
      exact x_iret E .boolean dX5_isWhite_15 rfl rfl (by have e : isW m = true := (by simp [isW]; omega); rw [e]; rfl) rfl
def isK (m : Nat) : Bool := decide (m = 1) || decide (m = 7)
set_option maxHeartbeats 4000000 in
set_option maxRecDepth 100000 in
theorem okX5_isKing (m : Nat) (hm : m < 2147483648) (h : qH) : Ok MX5_isKing [.int (nI m)] h (some (.int (qb (isK m)))) (h) := by
  refine ok_of (by decide +kernel) (Nat.zero_le _) (Nat.le_of_ble_eq_true rfl) ?_
  intro X C E
  show Ex X MX5_isKing 0 [(0, .int (nI m))] [] h
  refine x_iload_n C dX5_isKing_0 rfl ?_
  refine x_iconst C (v := nI 1) dX5_isKing_1 (by decide +kernel) ?_
  refine x_icmp_eqN C 11 dX5_isKing_2 (by decide) (by omega) (by omega) (fun c2 => ?_) (fun c2 => ?_)
  · refine x_iconst C (v := nI 1) dX5_isKing_11 (by decide +kernel) ?_
    refine x_goto C 16 dX5_isKing_12 (by decide) ?_
    exact x_iret E .boolean dX5_isKing_16 rfl rfl (by have e : isK m = true := (by simp [isK]; omega); rw [e]; rfl) rfl
  · refine x_iload_n C dX5_isKing_5 rfl ?_
    refine x_bipush C (v := nI 7) dX5_isKing_6 (by decide +kernel) ?_
    refine x_icmp_neN C 15 dX5_isKing_8 (by decide) (by omega) (by omega) (fun c8 => ?_) (fun c8 => ?_)
    · refine x_iconst C (v := nI 0) dX5_isKing_15 (by decide +kernel) ?_
      exact x_iret E .boolean dX5_isKing_16 rfl rfl (by have e : isK m = false := (by simp [isK]; omega); rw [e]; rfl) rfl
    · refine x_iconst C (v := nI 1) dX5_isKing_11 (by decide +kernel) ?_
      refine x_goto C 16 dX5_isKing_12 (by decide) ?_
      exact x_iret E .boolean dX5_isKing_16 rfl rfl (by have e : isK m = true := (by simp [isK]; omega); rw [e]; rfl) rfl
set_option maxHeartbeats 4000000 in
set_option maxRecDepth 100000 in
theorem okX5_hasSquare (p : Nat → Bool) {k : Nat} (hk : k < 25) (h : qH) : Ok MX5_hasSquare [.int (mask p), .int (nI k)] h (some (.int (qb (p k)))) (h) := by
  refine ok_of (by decide +kernel) (Nat.zero_le _) (Nat.le_of_ble_eq_true rfl) ?_
  intro X C E
  show Ex X MX5_hasSquare 0 [(0, .int (mask p)), (1, .int (nI k))] [] h
  refine x_iload_n C dX5_hasSquare_0 rfl ?_
  refine x_callS1i C (okX5_isSquare _ _) lkX5_95 miX5_isSquare mtX5_isSquare maX5_isSquare ⟨Nat.le_of_ble_eq_true rfl, Nat.le_of_ble_eq_true rfl⟩ (Nat.le_of_ble_eq_true rfl) dX5_hasSquare_1 ?_
  rw [isSq_nI (by omega), decide_eq_true hk]
  refine x_if_eqB C 19 dX5_hasSquare_4 (by decide) (fun c4 => ?_) (fun c4 => ?_)
  · exact absurd c4 (by decide)
  · refine x_iload_n C dX5_hasSquare_7 rfl ?_
    refine x_iload_n C dX5_hasSquare_8 rfl ?_
    refine x_ishr C dX5_hasSquare_9 ?_
    refine x_iconst C (v := nI 1) dX5_hasSquare_10 (by decide +kernel) ?_
    refine x_iand C dX5_hasSquare_11 ?_
    rw [mask_bit p hk]
    refine x_if_eqB C 19 dX5_hasSquare_12 (by decide) (fun c12 => ?_) (fun c12 => ?_)
    · refine x_iconst C (v := nI 0) dX5_hasSquare_19 (by decide +kernel) ?_
      exact x_iret E .boolean dX5_hasSquare_20 rfl rfl (by rw [c12]; rfl) rfl
    · refine x_iconst C (v := nI 1) dX5_hasSquare_15 (by decide +kernel) ?_
      refine x_goto C 20 dX5_hasSquare_16 (by decide) ?_
      exact x_iret E .boolean dX5_hasSquare_20 rfl rfl (by rw [c12]; rfl) rfl
def olk (p : Nat → Bool) (c : Bool) : Int32 := if c = true then mask p ||| nI 33554432 else mask p
theorem big_bits (k : Nat) (hk : k < 32) : (nI 33554432).toBitVec.getLsbD k = decide (k = 25) := by
  have : ∀ k : Fin 32, (nI 33554432).toBitVec.getLsbD k = decide ((k : Nat) = 25) := by decide +kernel
  exact this ⟨k, hk⟩
theorem low_bits (k : Nat) (hk : k < 32) : (nI 33554431).toBitVec.getLsbD k = decide (k < 25) := by
  have : ∀ k : Fin 32, (nI 33554431).toBitVec.getLsbD k = decide ((k : Nat) < 25) := by decide +kernel
  exact this ⟨k, hk⟩
theorem olk_bits (p : Nat → Bool) (c : Bool) (k : Nat) (hk : k < 32) : (olk p c).toBitVec.getLsbD k = ((decide (k < 25) && p k) || (decide (k = 25) && c)) := by
  cases c
  · simp only [olk]
    rw [if_neg (by decide), mask_bits]
    simp
  · simp only [olk]
    rw [if_pos trivial, Int32.toBitVec_or, BitVec.getLsbD_or, mask_bits, big_bits k hk]
    simp
theorem olk_low (p : Nat → Bool) (c : Bool) : olk p c &&& nI 33554431 = mask p := by
  apply i32_ext
  intro k hk
  rw [Int32.toBitVec_and, BitVec.getLsbD_and, olk_bits p c k hk, low_bits k hk, mask_bits]
  by_cases h : k < 25
  · have h2 : ¬ k = 25 := by omega
    simp [h, h2]
  · simp [h]
theorem olk_chk (p : Nat → Bool) (c : Bool) : olk p c &&& nI 33554432 = if c = true then nI 33554432 else nI 0 := by
  apply i32_ext
  intro k hk
  rw [Int32.toBitVec_and, BitVec.getLsbD_and, olk_bits p c k hk, big_bits k hk]
  by_cases h : k = 25
  · subst h
    cases c
    · rfl
    · rw [if_pos rfl, big_bits 25 hk]
      rfl
  · cases c
    · rw [if_neg (by decide)]
      simp only [h, decide_false, Bool.and_false]
      have : ∀ k : Fin 32, (nI 0).toBitVec.getLsbD k = false := by decide +kernel
      exact (this ⟨k, hk⟩).symm
    · rw [if_pos rfl, big_bits k hk]
      simp [h]
theorem olk_eq (p : Nat → Bool) (c : Bool) : olk p c = nI 33554432 ↔ c = true ∧ ∀ k, k < 25 → p k = false := by
  constructor
  · intro e
    refine ⟨?_, fun k hk => ?_⟩
    · have h := olk_bits p c 25 (by decide)
      rw [e, big_bits 25 (by decide)] at h
      simpa using h.symm
    · have h := olk_bits p c k (by omega)
      rw [e, big_bits k (by omega)] at h
      have h2 : ¬ k = 25 := by omega
      simpa [hk, h2] using h.symm
  · intro ⟨h1, h2⟩
    apply i32_ext
    intro k hk
    rw [olk_bits p c k hk, big_bits k hk, h1]
    by_cases h3 : k < 25
    · have h4 : ¬ k = 25 := by omega
      simp [h3, h4, h2 k h3]
    · simp [h3]
set_option maxHeartbeats 4000000 in
set_option maxRecDepth 100000 in
theorem okX5_squaresIn (p : Nat → Bool) (c : Bool) (h : qH) : Ok MX5_squaresIn [.int (olk p c)] h (some (.int (mask p))) (h) := by
  refine ok_of (by decide +kernel) (Nat.zero_le _) (Nat.le_of_ble_eq_true rfl) ?_
  intro X C E
  show Ex X MX5_squaresIn 0 [(0, .int (olk p c))] [] h
  refine x_iload_n C dX5_squaresIn_0 rfl ?_
  refine x_ldcw C dX5_squaresIn_1 lcX5_284 ?_
  refine x_iand C dX5_squaresIn_4 ?_
  rw [show (33554431 : Int32) = nI 33554431 from rfl, olk_low]
  exact x_iret E .int dX5_squaresIn_5 rfl rfl rfl rfl
/-- how many of the first n places a set has -/
def cnt (p : Nat → Bool) : Nat → Nat
  | 0 => 0
  | n + 1 => cnt p n + (if p n = true then 1 else 0)
theorem cnt_le (p : Nat → Bool) : ∀ n, cnt p n ≤ n
  | 0 => Nat.le_refl 0
  | n + 1 => by
    have := cnt_le p n
    simp only [cnt]
    split <;> omega
set_option maxHeartbeats 4000000 in
set_option maxRecDepth 100000 in
theorem okX5_bitsOf (p : Nat → Bool) (h : qH) : Ok MX5_bitsOf [.int (mask p)] h (some (.int (nI (cnt p 25)))) (h) := by
  refine ok_of (by decide +kernel) (Nat.zero_le _) (Nat.le_of_ble_eq_true rfl) ?_
  intro X C E
  show Ex X MX5_bitsOf 0 [(0, .int (mask p))] [] h
  have L : ∀ n i : Nat, i + n = 25 → Ex X MX5_bitsOf 4 [(0, .int (mask p)), (1, .int (nI (cnt p i))), (2, .int (nI i))] [] h := by
    intro n
    induction n with
    | zero =>
      intro i hi
      have e : i = 25 := by omega
      subst e
      refine x_iload_n C dX5_bitsOf_4 rfl ?_
      refine x_bipush C (v := nI 25) dX5_bitsOf_5 (by decide +kernel) ?_
      refine x_icmp_geN C 24 dX5_bitsOf_7 (by decide) (by omega) (by omega) (fun c7 => ?_) (fun c7 => ?_)
      · refine x_iload_n C dX5_bitsOf_24 rfl ?_
        exact x_iret E .int dX5_bitsOf_25 rfl rfl rfl rfl
      · exact absurd c7 (by omega)
    | succ n ih =>
      intro i hi
      have hlt : i < 25 := by omega
      refine x_iload_n C dX5_bitsOf_4 rfl ?_
      refine x_bipush C (v := nI 25) dX5_bitsOf_5 (by decide +kernel) ?_
      refine x_icmp_geN C 24 dX5_bitsOf_7 (by decide) (by omega) (by omega) (fun c7 => ?_) (fun c7 => ?_)
      · exact absurd c7 (by omega)
      · refine x_iload_n C dX5_bitsOf_10 rfl ?_
        refine x_iload_n C dX5_bitsOf_11 rfl ?_
        refine x_iload_n C dX5_bitsOf_12 rfl ?_
        refine x_ishr C dX5_bitsOf_13 ?_
        refine x_iconst C (v := nI 1) dX5_bitsOf_14 (by decide +kernel) ?_
        refine x_iand C dX5_bitsOf_15 ?_
        rw [mask_bit p hlt, qb_nI]
        refine x_iaddN C dX5_bitsOf_16 ?_
        refine x_istore_n C dX5_bitsOf_17 (by decide) [(1, _), (0, _), (2, _)] rfl ?_
        refine x_iinc C _ dX5_bitsOf_18 rfl (q_inc _) (by decide) [(2, _), (1, _), (0, _)] rfl ?_
        refine x_goto C 4 dX5_bitsOf_21 (by decide) ?_
        exact x_sub [2, 1, 0] (ih (i + 1) (by omega)) rfl
  refine x_iconst C (v := nI 0) dX5_bitsOf_0 (by decide +kernel) ?_
  refine x_istore_n C dX5_bitsOf_1 (by decide) [(1, _), (0, _)] rfl ?_
  refine x_iconst C (v := nI 0) dX5_bitsOf_2 (by decide +kernel) ?_
  refine x_istore_n C dX5_bitsOf_3 (by decide) [(2, _), (1, _), (0, _)] rfl ?_
  exact x_sub [2, 1, 0] (L 25 0 (by omega)) rfl
/-- the lowest place from i on, n places looked at -/
def low (p : Nat → Bool) : Nat → Nat → Int32
  | 0, _ => -1
  | n + 1, i => if p i = true then nI i else low p n (i + 1)
set_option maxHeartbeats 4000000 in
set_option maxRecDepth 100000 in
theorem okX5_lowestIn (p : Nat → Bool) (h : qH) : Ok MX5_lowestIn [.int (mask p)] h (some (.int (low p 25 0))) (h) := by
  refine ok_of (by decide +kernel) (Nat.zero_le _) (Nat.le_of_ble_eq_true rfl) ?_
  intro X C E
  show Ex X MX5_lowestIn 0 [(0, .int (mask p))] [] h
  have L : ∀ n i : Nat, i + n = 25 → low p 25 0 = low p n i → Ex X MX5_lowestIn 2 [(0, .int (mask p)), (1, .int (nI i))] [] h := by
    intro n
    induction n with
    | zero =>
      intro i hi hp
      have e : i = 25 := by omega
      subst e
      refine x_iload_n C dX5_lowestIn_2 rfl ?_
      refine x_bipush C (v := nI 25) dX5_lowestIn_3 (by decide +kernel) ?_
      refine x_icmp_geN C 24 dX5_lowestIn_5 (by decide) (by omega) (by omega) (fun c5 => ?_) (fun c5 => ?_)
      · refine x_iconst C (v := (-1)) dX5_lowestIn_24 (by decide +kernel) ?_
        exact x_iret E .int dX5_lowestIn_25 rfl rfl (by rw [hp]; rfl) rfl
      · exact absurd c5 (by omega)
    | succ n ih =>
      intro i hi hp
      have hlt : i < 25 := by omega
      refine x_iload_n C dX5_lowestIn_2 rfl ?_
      refine x_bipush C (v := nI 25) dX5_lowestIn_3 (by decide +kernel) ?_
      refine x_icmp_geN C 24 dX5_lowestIn_5 (by decide) (by omega) (by omega) (fun c5 => ?_) (fun c5 => ?_)
      · exact absurd c5 (by omega)
      · refine x_iload_n C dX5_lowestIn_8 rfl ?_
        refine x_iload_n C dX5_lowestIn_9 rfl ?_
        refine x_ishr C dX5_lowestIn_10 ?_
        refine x_iconst C (v := nI 1) dX5_lowestIn_11 (by decide +kernel) ?_
        refine x_iand C dX5_lowestIn_12 ?_
        rw [mask_bit p hlt]
        refine x_if_eqB C 18 dX5_lowestIn_13 (by decide) (fun c13 => ?_) (fun c13 => ?_)
        · refine x_iinc C _ dX5_lowestIn_18 rfl (q_inc _) (by decide) [(1, _), (0, _)] rfl ?_
          refine x_goto C 2 dX5_lowestIn_21 (by decide) ?_
          exact x_sub [1, 0] (ih (i + 1) (by omega) (by rw [hp, low, if_neg (by rw [c13]; decide)])) rfl
        · refine x_iload_n C dX5_lowestIn_16 rfl ?_
          exact x_iret E .int dX5_lowestIn_17 rfl rfl (by rw [hp, low, if_pos c13]) rfl
  refine x_iconst C (v := nI 0) dX5_lowestIn_0 (by decide +kernel) ?_
  refine x_istore_n C dX5_lowestIn_1 (by decide) [(1, _), (0, _)] rfl ?_
  exact x_sub [1, 0] (L 25 0 (by omega) rfl) rfl
