/-! a position: its board in the cell behind it -/
theorem q_gss {h : qH} {k : Nat} {x y : qE} (hk : h[k]? = some y) : (h.set k x)[k]? = some x := by
  rw [List.getElem?_set_self (List.getElem?_eq_some_iff.mp hk).1]
theorem q_gso {h : qH} {i k : Nat} {x : qE} (hk : i ≠ k) : (h.set i x)[k]? = h[k]? := List.getElem?_set_ne hk
theorem q_same {h : qH} {k : Nat} {x : qE} (hk : h[k]? = some x) : h.set k x = h := by
  apply List.ext_getElem?
  intro i
  by_cases hi : k = i
  · subst hi; rw [q_gss hk, hk]
  · rw [q_gso hi]
abbrev qA (b : Nat → Nat) : qE := .inl (0, 25, .inl (nb b))
/-- at k stands a position, its board b at k + 1 -/
def PosA (h : qH) (k : Nat) (b : Nat → Nat) : Prop := (∃ f1 f2 f3 f4 : Value, h[k]? = some (.inr (3, [.ref (k + 1), f1, f2, f3, f4]))) ∧ h[k + 1]? = some (qA b)
theorem PosA.set {h : qH} {k : Nat} {b b2 : Nat → Nat} (p : PosA h k b) : PosA (h.set (k + 1) (qA b2)) k b2 := by
  obtain ⟨⟨f1, f2, f3, f4, h0⟩, h1⟩ := p
  exact ⟨⟨f1, f2, f3, f4, by rw [q_gso (by omega)]; exact h0⟩, q_gss h1⟩
theorem x_stepcN {X : qX} {M : qM} (C : qC X M) {pc : Nat} {loc : List (Nat × Value)} {st : List Value} {h : qH} {d : Nat} (hd : decode M.2.1 pc = .ok (.iaload, 1)) (hi : d < 16) (kk : Ex X M (pc + 1) loc (.int (q_sc d) :: st) h) : Ex X M pc loc (.int (nI d) :: .ref 1000 :: st) h := by
  refine x_stepcld C hd (vp_in_nI hi (by decide)) ?_
  rw [nI_clamp (by omega)]
  exact kk
theorem x_steprN {X : qX} {M : qM} (C : qC X M) {pc : Nat} {loc : List (Nat × Value)} {st : List Value} {h : qH} {d : Nat} (hd : decode M.2.1 pc = .ok (.iaload, 1)) (hi : d < 16) (kk : Ex X M (pc + 1) loc (.int (q_sr d) :: st) h) : Ex X M pc loc (.int (nI d) :: .ref 1001 :: st) h := by
  refine x_steprld C hd (vp_in_nI hi (by decide)) ?_
  rw [nI_clamp (by omega)]
  exact kk
theorem x_top {X : qX} {M : qM} {pc : Nat} {loc : List (Nat × Value)} {st : List Value} {h : qH} {u v : Int32} (e : u = v) (kk : Ex X M pc loc (.int v :: st) h) : Ex X M pc loc (.int u :: st) h := by rw [e]; exact kk
set_option maxHeartbeats 4000000 in
set_option maxRecDepth 100000 in
theorem okX3_manOn {h : qH} {k : Nat} {b : Nat → Nat} (hp : PosA h k b) {i : Nat} (hi : i < 25) : Ok MX3_manOn [.ref k, .int (nI i)] h (some (.int (nI (b i)))) (h) := by
  refine ok_of (by decide +kernel) (Nat.zero_le _) (Nat.le_of_ble_eq_true rfl) ?_
  intro X C E
  show Ex X MX3_manOn 0 [(0, .ref k), (1, .int (nI i))] [] h
  obtain ⟨⟨f1, f2, f3, f4, h0⟩, h1⟩ := hp
  refine x_iload_n C dX3_manOn_0 rfl ?_
  refine x_callN1i C (okX5_isSquare _ _) lkX3_28 miX5_isSquare mtX5_isSquare maX5_isSquare ⟨Nat.le_of_ble_eq_true rfl, Nat.le_of_ble_eq_true rfl⟩ (Nat.le_of_ble_eq_true rfl) dX3_manOn_1 ?_
  rw [isSq_nI (by omega), decide_eq_true hi]
  refine x_if_eqB C 16 dX3_manOn_4 (by decide) (fun c4 => ?_) (fun c4 => ?_)
  · exact absurd c4 (by decide)
  · refine x_aload_n C dX3_manOn_7 rfl ?_
    refine x_getfield C qk3 0 (by decide) lfX3_9 dX3_manOn_8 h0 rfl ?_
    refine x_iload_n C dX3_manOn_11 rfl ?_
    refine x_iald C dX3_manOn_12 h1 (by omega) (by decide) ?_
    refine x_goto C 17 dX3_manOn_13 (by decide) ?_
    exact x_iret E .int dX3_manOn_17 rfl rfl rfl rfl
set_option maxHeartbeats 4000000 in
set_option maxRecDepth 100000 in
theorem okX3_manOn_out {h : qH} {k : Nat} {b : Nat → Nat} (hp : PosA h k b) {x : Int32} (hx : isSq x = false) : Ok MX3_manOn [.ref k, .int x] h (some (.int (nI 0))) (h) := by
  refine ok_of (by decide +kernel) (Nat.zero_le _) (Nat.le_of_ble_eq_true rfl) ?_
  intro X C E
  show Ex X MX3_manOn 0 [(0, .ref k), (1, .int x)] [] h
  obtain ⟨⟨f1, f2, f3, f4, h0⟩, h1⟩ := hp
  refine x_iload_n C dX3_manOn_0 rfl ?_
  refine x_callN1i C (okX5_isSquare _ _) lkX3_28 miX5_isSquare mtX5_isSquare maX5_isSquare ⟨Nat.le_of_ble_eq_true rfl, Nat.le_of_ble_eq_true rfl⟩ (Nat.le_of_ble_eq_true rfl) dX3_manOn_1 ?_
  rw [hx]
  refine x_if_eqB C 16 dX3_manOn_4 (by decide) (fun c4 => ?_) (fun c4 => ?_)
  · refine x_iconst C (v := nI 0) dX3_manOn_16 (by decide +kernel) ?_
    exact x_iret E .int dX3_manOn_17 rfl rfl rfl rfl
  · exact absurd c4 (by decide)
set_option maxHeartbeats 4000000 in
set_option maxRecDepth 100000 in
theorem okX3_setMan {h : qH} {k : Nat} {b : Nat → Nat} (hp : PosA h k b) {i : Nat} (hi : i < 25) (v : Nat) : Ok MX3_setMan [.ref k, .int (nI i), .int (nI v)] h (none) (h.set (k + 1) (qA (up b i v))) := by
  refine ok_of (by decide +kernel) (Nat.zero_le _) (Nat.le_of_ble_eq_true rfl) ?_
  intro X C E
  show Ex X MX3_setMan 0 [(0, .ref k), (1, .int (nI i)), (2, .int (nI v))] [] h
  obtain ⟨⟨f1, f2, f3, f4, h0⟩, h1⟩ := hp
  refine x_iload_n C dX3_setMan_0 rfl ?_
  refine x_callN1i C (okX5_isSquare _ _) lkX3_28 miX5_isSquare mtX5_isSquare maX5_isSquare ⟨Nat.le_of_ble_eq_true rfl, Nat.le_of_ble_eq_true rfl⟩ (Nat.le_of_ble_eq_true rfl) dX3_setMan_1 ?_
  rw [isSq_nI (by omega), decide_eq_true hi]
  refine x_if_eqB C 14 dX3_setMan_4 (by decide) (fun c4 => ?_) (fun c4 => ?_)
  · exact absurd c4 (by decide)
  · refine x_aload_n C dX3_setMan_7 rfl ?_
    refine x_getfield C qk3 0 (by decide) lfX3_9 dX3_setMan_8 h0 rfl ?_
    refine x_iload_n C dX3_setMan_11 rfl ?_
    refine x_iload_n C dX3_setMan_12 rfl ?_
    refine x_istb C dX3_setMan_13 h1 (by omega) (by decide) ?_
    exact x_vret E dX3_setMan_14 rfl rfl rfl
def ckS (b : Nat → Nat) (a z : Nat) (i : Nat) : Bool := decide (a ≤ b i ∧ b i ≤ z)
set_option maxHeartbeats 4000000 in
set_option maxRecDepth 100000 in
theorem okX3_countKinds {h : qH} {k : Nat} {b : Nat → Nat} (hp : PosA h k b) (hb : ∀ i, b i < 8) (a z : Nat) (ha : a < 100) (hz : z < 100) : Ok MX3_countKinds [.ref k, .int (nI a), .int (nI z)] h (some (.int (nI (cnt (ckS b a z) 25)))) (h) := by
  refine ok_of (by decide +kernel) (Nat.zero_le _) (Nat.le_of_ble_eq_true rfl) ?_
  intro X C E
  show Ex X MX3_countKinds 0 [(0, .ref k), (1, .int (nI a)), (2, .int (nI z))] [] h
  obtain ⟨⟨f1, f2, f3, f4, h0⟩, h1⟩ := hp
  have L : ∀ n i : Nat, i + n = 25 → Ex X MX3_countKinds 5 [(0, .ref k), (1, .int (nI a)), (2, .int (nI z)), (3, .int (nI (cnt (ckS b a z) i))), (4, .int (nI i))] [] h := by
    intro n
    induction n with
    | zero =>
      intro i hi 
      have e : i = 25 := by omega
      subst e
      refine x_iload C dX3_countKinds_5 rfl ?_
      refine x_bipush C (v := nI 25) dX3_countKinds_7 (by decide +kernel) ?_
      refine x_icmp_geN C 43 dX3_countKinds_9 (by decide) (by omega) (by omega) (fun c9 => ?_) (fun c9 => ?_)
      · refine x_iload_n C dX3_countKinds_43 rfl ?_
        exact x_iret E .int dX3_countKinds_44 rfl rfl rfl rfl
      · exact absurd c9 (by omega)
    | succ n ih =>
      intro i hi 
      have hlt : i < 25 := by omega
      have hbi := hb i
      refine x_iload C dX3_countKinds_5 rfl ?_
      refine x_bipush C (v := nI 25) dX3_countKinds_7 (by decide +kernel) ?_
      refine x_icmp_geN C 43 dX3_countKinds_9 (by decide) (by omega) (by omega) (fun c9 => ?_) (fun c9 => ?_)
      · exact absurd c9 (by omega)
      · refine x_aload_n C dX3_countKinds_12 rfl ?_
        refine x_getfield C qk3 0 (by decide) lfX3_9 dX3_countKinds_13 h0 rfl ?_
        refine x_iload C dX3_countKinds_16 rfl ?_
        refine x_iald C dX3_countKinds_18 h1 (by omega) (by decide) ?_
        refine x_iload_n C dX3_countKinds_19 rfl ?_
        refine x_icmp_ltN C 37 dX3_countKinds_20 (by decide) (by omega) (by omega) (fun c20 => ?_) (fun c20 => ?_)
        · have e : cnt (ckS b a z) i = cnt (ckS b a z) (i + 1) := by
            have : ckS b a z i = false := by unfold ckS; exact decide_eq_false (by omega)
            simp [cnt, this]
          rw [e]
          refine x_iinc C _ dX3_countKinds_37 rfl (q_inc _) (by decide) [(4, _), (0, _), (1, _), (2, _), (3, _)] rfl ?_
          refine x_goto C 5 dX3_countKinds_40 (by decide) ?_
          exact x_sub [1, 2, 3, 4, 0] (ih (i + 1) (by omega)) rfl
        · refine x_aload_n C dX3_countKinds_23 rfl ?_
          refine x_getfield C qk3 0 (by decide) lfX3_9 dX3_countKinds_24 h0 rfl ?_
          refine x_iload C dX3_countKinds_27 rfl ?_
          refine x_iald C dX3_countKinds_29 h1 (by omega) (by decide) ?_
          refine x_iload_n C dX3_countKinds_30 rfl ?_
          refine x_icmp_gtN C 37 dX3_countKinds_31 (by decide) (by omega) (by omega) (fun c31 => ?_) (fun c31 => ?_)
          · have e : cnt (ckS b a z) i = cnt (ckS b a z) (i + 1) := by
              have : ckS b a z i = false := by unfold ckS; exact decide_eq_false (by omega)
              simp [cnt, this]
            rw [e]
            refine x_iinc C _ dX3_countKinds_37 rfl (q_inc _) (by decide) [(4, _), (0, _), (1, _), (2, _), (3, _)] rfl ?_
            refine x_goto C 5 dX3_countKinds_40 (by decide) ?_
            exact x_sub [1, 2, 3, 4, 0] (ih (i + 1) (by omega)) rfl
          · have e : cnt (ckS b a z) i + 1 = cnt (ckS b a z) (i + 1) := by
              have : ckS b a z i = true := by unfold ckS; exact decide_eq_true (by omega)
              simp [cnt, this]
            refine x_iinc C (nI (cnt (ckS b a z) (i + 1))) dX3_countKinds_34 rfl (by rw [← e]; exact q_inc _) (by decide) [(3, _), (0, _), (1, _), (2, _), (4, _)] rfl ?_
            refine x_iinc C _ dX3_countKinds_37 rfl (q_inc _) (by decide) [(4, _), (3, _), (0, _), (1, _), (2, _)] rfl ?_
            refine x_goto C 5 dX3_countKinds_40 (by decide) ?_
            exact x_sub [2, 3, 4, 1, 0] (ih (i + 1) (by omega)) rfl
  refine x_iconst C (v := nI 0) dX3_countKinds_0 (by decide +kernel) ?_
  refine x_istore_n C dX3_countKinds_1 (by decide) [(3, _), (0, _), (1, _), (2, _)] rfl ?_
  refine x_iconst C (v := nI 0) dX3_countKinds_2 (by decide +kernel) ?_
  refine x_istore C dX3_countKinds_3 (by decide) [(4, _), (3, _), (0, _), (1, _), (2, _)] rfl ?_
  exact x_sub [2, 3, 4, 1, 0] (L 25 0 (by omega)) rfl
set_option maxHeartbeats 4000000 in
set_option maxRecDepth 100000 in
theorem okX3_countAll {h : qH} {k : Nat} {b : Nat → Nat} (hp : PosA h k b) (hb : ∀ i, b i < 8) : Ok MX3_countAll [.ref k] h (some (.int (nI (cnt (ckS b 1 7) 25)))) (h) := by
  refine ok_of (by decide +kernel) (Nat.zero_le _) (Nat.le_of_ble_eq_true rfl) ?_
  intro X C E
  show Ex X MX3_countAll 0 [(0, .ref k)] [] h
  refine x_aload_n C dX3_countAll_0 rfl ?_
  refine x_iconst C (v := nI 1) dX3_countAll_1 (by decide +kernel) ?_
  refine x_bipush C (v := nI 7) dX3_countAll_2 (by decide +kernel) ?_
  refine x_callV2i C (okX3_countKinds hp hb 1 7 (by decide) (by decide)) lkX3_32 miX3_countKinds msX3_countKinds maX3_countKinds ⟨Nat.le_of_ble_eq_true rfl, Nat.le_of_ble_eq_true rfl⟩ (Nat.le_of_ble_eq_true rfl) hp.1.choose_spec.choose_spec.choose_spec.choose_spec rfl dX3_countAll_4 ?_
  exact x_iret E .int dX3_countAll_7 rfl rfl rfl rfl
/-- the first place from i on, n places looked at -/
def find (p : Nat → Bool) : Nat → Nat → Option Nat
  | 0, _ => none
  | n + 1, i => if p i = true then some i else find p n (i + 1)
def sqI (o : Option Nat) : Int32 := match o with
  | none => -1
  | some i => nI i
theorem low_find (p : Nat → Bool) : ∀ n i, low p n i = sqI (find p n i)
  | 0, _ => rfl
  | n + 1, i => by
    simp only [low, find]
    split
    · rfl
    · exact low_find p n (i + 1)
theorem find_some {p : Nat → Bool} : ∀ {n i j : Nat}, find p n i = some j → i ≤ j ∧ j < i + n ∧ p j = true ∧ ∀ t, i ≤ t → t < j → p t = false
  | 0, _, _, h => by simp [find] at h
  | n + 1, i, j, h => by
    simp only [find] at h
    by_cases hp : p i = true
    · rw [if_pos hp] at h
      cases h
      exact ⟨Nat.le_refl _, by omega, hp, fun t h1 h2 => by omega⟩
    · rw [if_neg hp] at h
      obtain ⟨a1, a2, a3, a4⟩ := find_some h
      refine ⟨by omega, by omega, a3, fun t h1 h2 => ?_⟩
      by_cases ht : t = i
      · subst ht; simpa using hp
      · exact a4 t (by omega) h2
theorem find_none {p : Nat → Bool} : ∀ {n i : Nat}, find p n i = none → ∀ t, i ≤ t → t < i + n → p t = false
  | 0, _, _ => fun t h1 h2 => by omega
  | n + 1, i, h => by
    simp only [find] at h
    by_cases hp : p i = true
    · rw [if_pos hp] at h; cases h
    · rw [if_neg hp] at h
      intro t h1 h2
      by_cases ht : t = i
      · subst ht; simpa using hp
      · exact find_none h t (by omega) (by omega)
/-- where a kind stands -/
def loc7 (b : Nat → Nat) (v : Nat) : Option Nat := find (fun i => decide (b i = v)) 25 0
theorem loc7_some {b : Nat → Nat} {v j : Nat} (h : loc7 b v = some j) : j < 25 ∧ b j = v := by
  obtain ⟨-, h2, h3, -⟩ := find_some h
  exact ⟨by omega, by simpa using h3⟩
theorem sqI_neg {o : Option Nat} (ho : ∀ j, o = some j → j < 2147483648) : sqI o < 0 ↔ o = none := by
  cases o with
  | none => exact ⟨fun _ => rfl, fun _ => by show (-1 : Int32) < 0; decide⟩
  | some j => exact ⟨fun q => absurd q (nI_pos (ho j rfl)), fun q => by cases q⟩
set_option maxHeartbeats 4000000 in
set_option maxRecDepth 100000 in
theorem okX3_squareOf {h : qH} {k : Nat} {b : Nat → Nat} (hp : PosA h k b) (hb : ∀ i, b i < 8) (v : Nat) (hv : v < 100) : Ok MX3_squareOf [.ref k, .int (nI v)] h (some (.int (sqI (loc7 b v)))) (h) := by
  refine ok_of (by decide +kernel) (Nat.zero_le _) (Nat.le_of_ble_eq_true rfl) ?_
  intro X C E
  show Ex X MX3_squareOf 0 [(0, .ref k), (1, .int (nI v))] [] h
  obtain ⟨⟨f1, f2, f3, f4, h0⟩, h1⟩ := hp
  have L : ∀ n i : Nat, i + n = 25 → loc7 b v = find (fun i => decide (b i = v)) n i → Ex X MX3_squareOf 2 [(0, .ref k), (1, .int (nI v)), (2, .int (nI i))] [] h := by
    intro n
    induction n with
    | zero =>
      intro i hi hp
      have e : i = 25 := by omega
      subst e
      refine x_iload_n C dX3_squareOf_2 rfl ?_
      refine x_bipush C (v := nI 25) dX3_squareOf_3 (by decide +kernel) ?_
      refine x_icmp_geN C 26 dX3_squareOf_5 (by decide) (by omega) (by omega) (fun c5 => ?_) (fun c5 => ?_)
      · refine x_iconst C (v := (-1)) dX3_squareOf_26 (by decide +kernel) ?_
        exact x_iret E .int dX3_squareOf_27 rfl rfl (by rw [hp]; rfl) rfl
      · exact absurd c5 (by omega)
    | succ n ih =>
      intro i hi hp
      have hlt : i < 25 := by omega
      have hbi := hb i
      refine x_iload_n C dX3_squareOf_2 rfl ?_
      refine x_bipush C (v := nI 25) dX3_squareOf_3 (by decide +kernel) ?_
      refine x_icmp_geN C 26 dX3_squareOf_5 (by decide) (by omega) (by omega) (fun c5 => ?_) (fun c5 => ?_)
      · exact absurd c5 (by omega)
      · refine x_aload_n C dX3_squareOf_8 rfl ?_
        refine x_getfield C qk3 0 (by decide) lfX3_9 dX3_squareOf_9 h0 rfl ?_
        refine x_iload_n C dX3_squareOf_12 rfl ?_
        refine x_iald C dX3_squareOf_13 h1 (by omega) (by decide) ?_
        refine x_iload_n C dX3_squareOf_14 rfl ?_
        refine x_icmp_neN C 20 dX3_squareOf_15 (by decide) (by omega) (by omega) (fun c15 => ?_) (fun c15 => ?_)
        · refine x_iinc C _ dX3_squareOf_20 rfl (q_inc _) (by decide) [(2, _), (0, _), (1, _)] rfl ?_
          refine x_goto C 2 dX3_squareOf_23 (by decide) ?_
          exact x_sub [1, 2, 0] (ih (i + 1) (by omega) (by rw [hp, find, if_neg (by simpa using c15)])) rfl
        · refine x_iload_n C dX3_squareOf_18 rfl ?_
          exact x_iret E .int dX3_squareOf_19 rfl rfl (by rw [hp, find, if_pos (by simpa using c15)]; rfl) rfl
  refine x_iconst C (v := nI 0) dX3_squareOf_0 (by decide +kernel) ?_
  refine x_istore_n C dX3_squareOf_1 (by decide) [(2, _), (0, _), (1, _)] rfl ?_
  exact x_sub [1, 2, 0] (L 25 0 (by omega) rfl) rfl
def along (m d s : Nat) : Bool := decide ((8 ≤ d ∧ m = 5) ∨ (d < 8 ∧ m = 1 ∧ s = 0) ∨ (d < 8 ∧ m ≠ 1 ∧ (m = 2 ∨ (d < 4 ∧ m = 3) ∨ (4 ≤ d ∧ m = 4))))
set_option maxHeartbeats 4000000 in
set_option maxRecDepth 100000 in
theorem okX3_attacksAlong (m d s : Nat) (hm : m < 100) (hd : d < 100) (hs : s < 100) (h : qH) : Ok MX3_attacksAlong [.int (nI m), .int (nI d), .int (nI s)] h (some (.int (qb (along m d s)))) (h) := by
  refine ok_of (by decide +kernel) (Nat.zero_le _) (Nat.le_of_ble_eq_true rfl) ?_
  intro X C E
  show Ex X MX3_attacksAlong 0 [(0, .int (nI m)), (1, .int (nI d)), (2, .int (nI s))] [] h
  refine x_iload_n C dX3_attacksAlong_0 rfl ?_
  refine x_bipush C (v := nI 8) dX3_attacksAlong_1 (by decide +kernel) ?_
  refine x_icmp_ltN C 17 dX3_attacksAlong_3 (by decide) (by omega) (by omega) (fun c3 => ?_) (fun c3 => ?_)
  · refine x_iload_n C dX3_attacksAlong_17 rfl ?_
    refine x_iconst C (v := nI 1) dX3_attacksAlong_18 (by decide +kernel) ?_
    refine x_icmp_neN C 32 dX3_attacksAlong_19 (by decide) (by omega) (by omega) (fun c19 => ?_) (fun c19 => ?_)
    · refine x_iload_n C dX3_attacksAlong_32 rfl ?_
      refine x_iconst C (v := nI 2) dX3_attacksAlong_33 (by decide +kernel) ?_
      refine x_icmp_eqN C 51 dX3_attacksAlong_34 (by decide) (by omega) (by omega) (fun c34 => ?_) (fun c34 => ?_)
      · refine x_iconst C (v := nI 1) dX3_attacksAlong_51 (by decide +kernel) ?_
        refine x_goto C 56 dX3_attacksAlong_52 (by decide) ?_
        exact x_iret E .boolean dX3_attacksAlong_56 rfl rfl (by have e : along m d s = true := (by unfold along; exact decide_eq_true (by omega)); rw [e]; rfl) rfl
      · refine x_iload_n C dX3_attacksAlong_37 rfl ?_
        refine x_iload_n C dX3_attacksAlong_38 rfl ?_
        refine x_iconst C (v := nI 4) dX3_attacksAlong_39 (by decide +kernel) ?_
        refine x_icmp_geN C 47 dX3_attacksAlong_40 (by decide) (by omega) (by omega) (fun c40 => ?_) (fun c40 => ?_)
        · refine x_iconst C (v := nI 4) dX3_attacksAlong_47 (by decide +kernel) ?_
          refine x_icmp_neN C 55 dX3_attacksAlong_48 (by decide) (by omega) (by omega) (fun c48 => ?_) (fun c48 => ?_)
          · refine x_iconst C (v := nI 0) dX3_attacksAlong_55 (by decide +kernel) ?_
            exact x_iret E .boolean dX3_attacksAlong_56 rfl rfl (by have e : along m d s = false := (by unfold along; exact decide_eq_false (by omega)); rw [e]; rfl) rfl
          · refine x_iconst C (v := nI 1) dX3_attacksAlong_51 (by decide +kernel) ?_
            refine x_goto C 56 dX3_attacksAlong_52 (by decide) ?_
            exact x_iret E .boolean dX3_attacksAlong_56 rfl rfl (by have e : along m d s = true := (by unfold along; exact decide_eq_true (by omega)); rw [e]; rfl) rfl
        · refine x_iconst C (v := nI 3) dX3_attacksAlong_43 (by decide +kernel) ?_
          refine x_goto C 48 dX3_attacksAlong_44 (by decide) ?_
          refine x_icmp_neN C 55 dX3_attacksAlong_48 (by decide) (by omega) (by omega) (fun c48 => ?_) (fun c48 => ?_)
          · refine x_iconst C (v := nI 0) dX3_attacksAlong_55 (by decide +kernel) ?_
            exact x_iret E .boolean dX3_attacksAlong_56 rfl rfl (by have e : along m d s = false := (by unfold along; exact decide_eq_false (by omega)); rw [e]; rfl) rfl
          · refine x_iconst C (v := nI 1) dX3_attacksAlong_51 (by decide +kernel) ?_
            refine x_goto C 56 dX3_attacksAlong_52 (by decide) ?_
            exact x_iret E .boolean dX3_attacksAlong_56 rfl rfl (by have e : along m d s = true := (by unfold along; exact decide_eq_true (by omega)); rw [e]; rfl) rfl
    · refine x_iload_n C dX3_attacksAlong_22 rfl ?_
      refine x_if_neN C 30 dX3_attacksAlong_23 (by decide) (by omega) (fun c23 => ?_) (fun c23 => ?_)
      · refine x_iconst C (v := nI 0) dX3_attacksAlong_30 (by decide +kernel) ?_
        exact x_iret E .boolean dX3_attacksAlong_31 rfl rfl (by have e : along m d s = false := (by unfold along; exact decide_eq_false (by omega)); rw [e]; rfl) rfl
      · refine x_iconst C (v := nI 1) dX3_attacksAlong_26 (by decide +kernel) ?_
        refine x_goto C 31 dX3_attacksAlong_27 (by decide) ?_
        exact x_iret E .boolean dX3_attacksAlong_31 rfl rfl (by have e : along m d s = true := (by unfold along; exact decide_eq_true (by omega)); rw [e]; rfl) rfl
  · refine x_iload_n C dX3_attacksAlong_6 rfl ?_
    refine x_iconst C (v := nI 5) dX3_attacksAlong_7 (by decide +kernel) ?_
    refine x_icmp_neN C 15 dX3_attacksAlong_8 (by decide) (by omega) (by omega) (fun c8 => ?_) (fun c8 => ?_)
    · refine x_iconst C (v := nI 0) dX3_attacksAlong_15 (by decide +kernel) ?_
      exact x_iret E .boolean dX3_attacksAlong_16 rfl rfl (by have e : along m d s = false := (by unfold along; exact decide_eq_false (by omega)); rw [e]; rfl) rfl
    · refine x_iconst C (v := nI 1) dX3_attacksAlong_11 (by decide +kernel) ?_
      refine x_goto C 16 dX3_attacksAlong_12 (by decide) ?_
      exact x_iret E .boolean dX3_attacksAlong_16 rfl rfl (by have e : along m d s = true := (by unfold along; exact decide_eq_true (by omega)); rw [e]; rfl) rfl
def dcI (d : Nat) : Int := ([1, 0, -1, 0, 1, -1, -1, 1, 1, 2, 2, 1, -1, -2, -2, -1] : List Int).getD d 0
def drI (d : Nat) : Int := ([0, 1, 0, -1, 1, 1, -1, -1, 2, 1, -1, -2, -2, -1, 1, 2] : List Int).getD d 0
/-- one step in a direction, from column c and row r -/
def stepC (c r d : Nat) : Option (Nat × Nat) :=
  if 0 ≤ (c : Int) + dcI d ∧ (c : Int) + dcI d < 5 ∧ 0 ≤ (r : Int) + drI d ∧ (r : Int) + drI d < 5 then some (((c : Int) + dcI d).toNat, ((r : Int) + drI d).toNat) else none
def stepOk (c r d : Nat) : Bool := match stepC c r d with
  | none => decide (nI c + q_sc d < 0) || decide (nI 5 ≤ nI c + q_sc d) || decide (nI r + q_sr d < 0) || decide (nI 5 ≤ nI r + q_sr d)
  | some q => decide (q.1 < 5) && decide (q.2 < 5) && decide (nI c + q_sc d = nI q.1) && decide (nI r + q_sr d = nI q.2)
theorem stepOk_all : ∀ (c r : Fin 5) (d : Fin 16), stepOk c r d = true := by decide +kernel
theorem step_cases {c r d : Nat} (hc : c < 5) (hr : r < 5) (hd : d < 16) : (stepC c r d = none ∧ (nI c + q_sc d < 0 ∨ nI 5 ≤ nI c + q_sc d ∨ nI r + q_sr d < 0 ∨ nI 5 ≤ nI r + q_sr d)) ∨ ∃ c2 r2 : Nat, c2 < 5 ∧ r2 < 5 ∧ stepC c r d = some (c2, r2) ∧ nI c + q_sc d = nI c2 ∧ nI r + q_sr d = nI r2 := by
  have h : stepOk c r d = true := stepOk_all ⟨c, hc⟩ ⟨r, hr⟩ ⟨d, hd⟩
  unfold stepOk at h
  cases e : stepC c r d with
  | none =>
    rw [e] at h
    simp only [Bool.or_eq_true, decide_eq_true_eq] at h
    exact Or.inl ⟨rfl, by rcases h with ((h | h) | h) | h <;> simp only [h, true_or, or_true]⟩
  | some q =>
    obtain ⟨c2, r2⟩ := q
    rw [e] at h
    simp only [Bool.and_eq_true, decide_eq_true_eq] at h
    exact Or.inr ⟨c2, r2, h.1.1.1, h.1.1.2, rfl, h.1.2, h.2⟩
/-- whether the first one met on a way is a white man that attacks back: n steps are left, s done -/
def met (b : Nat → Nat) (d : Nat) : Nat → Nat → Nat → Nat → Bool
  | 0, _, _, _ => false
  | n + 1, c, r, s => match stepC c r d with
    | none => false
    | some q => if b (q.2 * 5 + q.1) = 0 then met b d n q.1 q.2 (s + 1) else along (b (q.2 * 5 + q.1)) d s
def stp (d : Nat) : Nat := if d < 8 then 4 else 1
def metB (b : Nat → Nat) (i d : Nat) : Bool := met b d (stp d) (i % 5) (i / 5) 0
set_option maxHeartbeats 4000000 in
set_option maxRecDepth 100000 in
theorem okX3_isMetIn {h : qH} {k : Nat} {b : Nat → Nat} (hp : PosA h k b) (hb : ∀ i, b i < 8) {i d : Nat} (hi : i < 25) (hd : d < 16) : Ok MX3_isMetIn [.ref k, .int (nI i), .int (nI d)] h (some (.int (qb (metB b i d)))) (h) := by
  refine ok_of (by decide +kernel) (Nat.zero_le _) (Nat.le_of_ble_eq_true rfl) ?_
  intro X C E
  show Ex X MX3_isMetIn 0 [(0, .ref k), (1, .int (nI i)), (2, .int (nI d))] [] h
  obtain ⟨⟨f1, f2, f3, f4, h0⟩, h1⟩ := hp
  have hst : stp d ≤ 4 := by unfold stp; split <;> omega
  have L : ∀ n c r s : Nat, s + n = stp d → c < 5 → r < 5 → metB b i d = met b d n c r s → Ex X MX3_isMetIn 44 [(0, .ref k), (1, .int (nI i)), (2, .int (nI d)), (3, .int (nI c)), (4, .int (nI r)), (5, .int (nI (stp d))), (6, .int (nI s))] [] h := by
    intro n
    induction n with
    | zero =>
      intro c r s hsn hc hr ht
      refine x_iload C dX3_isMetIn_44 rfl ?_
      refine x_iload C dX3_isMetIn_46 rfl ?_
      refine x_icmp_geN C 124 dX3_isMetIn_48 (by decide) (by omega) (by omega) (fun c48 => ?_) (fun c48 => ?_)
      · refine x_iconst C (v := nI 0) dX3_isMetIn_124 (by decide +kernel) ?_
        exact x_iret E .boolean dX3_isMetIn_125 rfl rfl (by rw [ht]; rfl) rfl
      · exact absurd c48 (by omega)
    | succ n ih =>
      intro c r s hsn hc hr ht
      refine x_iload C dX3_isMetIn_44 rfl ?_
      refine x_iload C dX3_isMetIn_46 rfl ?_
      refine x_icmp_geN C 124 dX3_isMetIn_48 (by decide) (by omega) (by omega) (fun c48 => ?_) (fun c48 => ?_)
      · exact absurd c48 (by omega)
      · rcases step_cases hc hr hd with ⟨hs, hx⟩ | ⟨c2, r2, hc2, hr2, hs, hx, hy⟩
        · refine x_iload_n C dX3_isMetIn_51 rfl ?_
          refine x_stepc C lfX3_43 dX3_isMetIn_52 ?_
          refine x_iload_n C dX3_isMetIn_55 rfl ?_
          refine x_stepcN C dX3_isMetIn_56 (by omega) ?_
          refine x_iadd C dX3_isMetIn_57 ?_
          refine x_istore_n C dX3_isMetIn_58 (by decide) [(3, _), (0, _), (1, _), (2, _), (4, _), (5, _), (6, _)] rfl ?_
          refine x_iload C dX3_isMetIn_59 rfl ?_
          refine x_stepr C lfX3_46 dX3_isMetIn_61 ?_
          refine x_iload_n C dX3_isMetIn_64 rfl ?_
          refine x_steprN C dX3_isMetIn_65 (by omega) ?_
          refine x_iadd C dX3_isMetIn_66 ?_
          refine x_istore C dX3_isMetIn_67 (by decide) [(4, _), (3, _), (0, _), (1, _), (2, _), (5, _), (6, _)] rfl ?_
          refine x_iload_n C dX3_isMetIn_69 rfl ?_
          refine x_if_lt C 89 dX3_isMetIn_70 (by decide) (fun c70 => ?_) (fun c70 => ?_)
          · refine x_iconst C (v := nI 0) dX3_isMetIn_89 (by decide +kernel) ?_
            exact x_iret E .boolean dX3_isMetIn_90 rfl rfl (by rw [ht, met, hs]; rfl) rfl
          · refine x_iload_n C dX3_isMetIn_73 rfl ?_
            refine x_iconst C (v := nI 5) dX3_isMetIn_74 (by decide +kernel) ?_
            refine x_icmp_ge C 89 dX3_isMetIn_75 (by decide) (fun c75 => ?_) (fun c75 => ?_)
            · refine x_iconst C (v := nI 0) dX3_isMetIn_89 (by decide +kernel) ?_
              exact x_iret E .boolean dX3_isMetIn_90 rfl rfl (by rw [ht, met, hs]; rfl) rfl
            · refine x_iload C dX3_isMetIn_78 rfl ?_
              refine x_if_lt C 89 dX3_isMetIn_80 (by decide) (fun c80 => ?_) (fun c80 => ?_)
              · refine x_iconst C (v := nI 0) dX3_isMetIn_89 (by decide +kernel) ?_
                exact x_iret E .boolean dX3_isMetIn_90 rfl rfl (by rw [ht, met, hs]; rfl) rfl
              · refine x_iload C dX3_isMetIn_83 rfl ?_
                refine x_iconst C (v := nI 5) dX3_isMetIn_85 (by decide +kernel) ?_
                refine x_icmp_lt C 91 dX3_isMetIn_86 (by decide) (fun c86 => ?_) (fun c86 => ?_)
                · rcases hx with hx | hx | hx | hx; exact absurd hx c70; exact absurd hx c75; exact absurd hx c80; exact absurd c86 (Int32.not_lt.mpr hx)
                · refine x_iconst C (v := nI 0) dX3_isMetIn_89 (by decide +kernel) ?_
                  exact x_iret E .boolean dX3_isMetIn_90 rfl rfl (by rw [ht, met, hs]; rfl) rfl
        · have hb2 := hb (r2 * 5 + c2)
          refine x_iload_n C dX3_isMetIn_51 rfl ?_
          refine x_stepc C lfX3_43 dX3_isMetIn_52 ?_
          refine x_iload_n C dX3_isMetIn_55 rfl ?_
          refine x_stepcN C dX3_isMetIn_56 (by omega) ?_
          refine x_iadd C dX3_isMetIn_57 ?_
          rw [hx]
          refine x_istore_n C dX3_isMetIn_58 (by decide) [(3, _), (0, _), (1, _), (2, _), (4, _), (5, _), (6, _)] rfl ?_
          refine x_iload C dX3_isMetIn_59 rfl ?_
          refine x_stepr C lfX3_46 dX3_isMetIn_61 ?_
          refine x_iload_n C dX3_isMetIn_64 rfl ?_
          refine x_steprN C dX3_isMetIn_65 (by omega) ?_
          refine x_iadd C dX3_isMetIn_66 ?_
          rw [hy]
          refine x_istore C dX3_isMetIn_67 (by decide) [(4, _), (3, _), (0, _), (1, _), (2, _), (5, _), (6, _)] rfl ?_
          refine x_iload_n C dX3_isMetIn_69 rfl ?_
          refine x_if_ltN C 89 dX3_isMetIn_70 (by decide) (by omega) ?_
          refine x_iload_n C dX3_isMetIn_73 rfl ?_
          refine x_iconst C (v := nI 5) dX3_isMetIn_74 (by decide +kernel) ?_
          refine x_icmp_geN C 89 dX3_isMetIn_75 (by decide) (by omega) (by omega) (fun c75 => ?_) (fun c75 => ?_)
          · exact absurd c75 (by omega)
          · refine x_iload C dX3_isMetIn_78 rfl ?_
            refine x_if_ltN C 89 dX3_isMetIn_80 (by decide) (by omega) ?_
            refine x_iload C dX3_isMetIn_83 rfl ?_
            refine x_iconst C (v := nI 5) dX3_isMetIn_85 (by decide +kernel) ?_
            refine x_icmp_ltN C 91 dX3_isMetIn_86 (by decide) (by omega) (by omega) (fun c86 => ?_) (fun c86 => ?_)
            · refine x_aload_n C dX3_isMetIn_91 rfl ?_
              refine x_getfield C qk3 0 (by decide) lfX3_9 dX3_isMetIn_92 h0 rfl ?_
              refine x_iload C dX3_isMetIn_95 rfl ?_
              refine x_iconst C (v := nI 5) dX3_isMetIn_97 (by decide +kernel) ?_
              refine x_imulN C dX3_isMetIn_98 ?_
              refine x_iload_n C dX3_isMetIn_99 rfl ?_
              refine x_iaddN C dX3_isMetIn_100 ?_
              refine x_iald C dX3_isMetIn_101 h1 (by omega) (by decide) ?_
              refine x_istore C dX3_isMetIn_102 (by decide) [(7, _), (4, _), (3, _), (0, _), (1, _), (2, _), (5, _), (6, _)] rfl ?_
              refine x_iload C dX3_isMetIn_104 rfl ?_
              refine x_if_eqN C 118 dX3_isMetIn_106 (by decide) (by omega) (fun c106 => ?_) (fun c106 => ?_)
              · refine x_iinc C _ dX3_isMetIn_118 rfl (q_inc _) (by decide) [(6, _), (7, _), (4, _), (3, _), (0, _), (1, _), (2, _), (5, _)] rfl ?_
                refine x_goto C 44 dX3_isMetIn_121 (by decide) ?_
                exact x_sub [4, 5, 6, 3, 2, 7, 0] (ih c2 r2 (s + 1) (by omega) hc2 hr2 (by rw [ht, met, hs]; simp only [if_pos c106])) rfl
              · refine x_iload C dX3_isMetIn_109 rfl ?_
                refine x_iload_n C dX3_isMetIn_111 rfl ?_
                refine x_iload C dX3_isMetIn_112 rfl ?_
                refine x_callS3i C (okX3_attacksAlong _ _ _ (by omega) (by omega) (by omega) _) lkX3_62 miX3_attacksAlong mtX3_attacksAlong maX3_attacksAlong ⟨Nat.le_of_ble_eq_true rfl, Nat.le_of_ble_eq_true rfl⟩ (Nat.le_of_ble_eq_true rfl) dX3_isMetIn_114 ?_
                exact x_iret E .boolean dX3_isMetIn_117 rfl (qb_nar _) (by rw [ht, met, hs]; simp only [if_neg c106]) rfl
            · exact absurd c86 (by omega)
  refine x_iload_n C dX3_isMetIn_0 rfl ?_
  refine x_callN1i C (okX5_isSquare _ _) lkX3_28 miX5_isSquare mtX5_isSquare maX5_isSquare ⟨Nat.le_of_ble_eq_true rfl, Nat.le_of_ble_eq_true rfl⟩ (Nat.le_of_ble_eq_true rfl) dX3_isMetIn_1 ?_
  rw [isSq_nI (by omega), decide_eq_true hi]
  refine x_if_eqB C 17 dX3_isMetIn_4 (by decide) (fun c4 => ?_) (fun c4 => ?_)
  · exact absurd c4 (by decide)
  · refine x_iload_n C dX3_isMetIn_7 rfl ?_
    refine x_if_ltN C 17 dX3_isMetIn_8 (by decide) (by omega) ?_
    refine x_iload_n C dX3_isMetIn_11 rfl ?_
    refine x_bipush C (v := nI 16) dX3_isMetIn_12 (by decide +kernel) ?_
    refine x_icmp_ltN C 19 dX3_isMetIn_14 (by decide) (by omega) (by omega) (fun c14 => ?_) (fun c14 => ?_)
    · refine x_iload_n C dX3_isMetIn_19 rfl ?_
      refine x_iconst C (v := nI 5) dX3_isMetIn_20 (by decide +kernel) ?_
      refine x_iremN C dX3_isMetIn_21 (by omega) (by decide) (by decide) ?_
      refine x_istore_n C dX3_isMetIn_22 (by decide) [(3, _), (0, _), (1, _), (2, _)] rfl ?_
      refine x_iload_n C dX3_isMetIn_23 rfl ?_
      refine x_iconst C (v := nI 5) dX3_isMetIn_24 (by decide +kernel) ?_
      refine x_idivN C dX3_isMetIn_25 (by omega) (by decide) (by decide) ?_
      refine x_istore C dX3_isMetIn_26 (by decide) [(4, _), (3, _), (0, _), (1, _), (2, _)] rfl ?_
      refine x_iload_n C dX3_isMetIn_28 rfl ?_
      refine x_bipush C (v := nI 8) dX3_isMetIn_29 (by decide +kernel) ?_
      refine x_icmp_geN C 38 dX3_isMetIn_31 (by decide) (by omega) (by omega) (fun c31 => ?_) (fun c31 => ?_)
      · refine x_iconst C (v := nI 1) dX3_isMetIn_38 (by decide +kernel) ?_
        refine x_top (v := nI (stp d)) (by unfold stp; rw [if_neg (by omega)]) ?_
        refine x_istore C dX3_isMetIn_39 (by decide) [(5, _), (4, _), (3, _), (0, _), (1, _), (2, _)] rfl ?_
        refine x_iconst C (v := nI 0) dX3_isMetIn_41 (by decide +kernel) ?_
        refine x_istore C dX3_isMetIn_42 (by decide) [(6, _), (5, _), (4, _), (3, _), (0, _), (1, _), (2, _)] rfl ?_
        exact x_sub [4, 5, 6, 3, 2, 1, 0] (L (stp d) (i % 5) (i / 5) 0 (by omega) (by omega) (by omega) rfl) rfl
      · refine x_iconst C (v := nI 4) dX3_isMetIn_34 (by decide +kernel) ?_
        refine x_goto C 39 dX3_isMetIn_35 (by decide) ?_
        refine x_top (v := nI (stp d)) (by unfold stp; rw [if_pos (by omega)]) ?_
        refine x_istore C dX3_isMetIn_39 (by decide) [(5, _), (4, _), (3, _), (0, _), (1, _), (2, _)] rfl ?_
        refine x_iconst C (v := nI 0) dX3_isMetIn_41 (by decide +kernel) ?_
        refine x_istore C dX3_isMetIn_42 (by decide) [(6, _), (5, _), (4, _), (3, _), (0, _), (1, _), (2, _)] rfl ?_
        exact x_sub [4, 5, 6, 3, 2, 1, 0] (L (stp d) (i % 5) (i / 5) 0 (by omega) (by omega) (by omega) rfl) rfl
    · exact absurd c14 (by omega)
