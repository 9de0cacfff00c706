/-! the reference: moves, keys, kinds told -/
theorem inB_of {x : Int32} {n : Nat} (hn : n < 2147483648) (h : inB x (nI 0) (nI n - nI 1) = true) : ∃ i, i < n ∧ x = nI i := by
  unfold inB at h
  rw [Bool.and_eq_true, Bool.not_eq_true', Bool.not_eq_true', decide_eq_false_iff_not, decide_eq_false_iff_not] at h
  obtain ⟨i, hi, rfl⟩ := nI_of (x := x) h.1
  refine ⟨i, ?_, rfl⟩
  cases n with
  | zero => exact absurd (show (nI 0 - nI 1 : Int32) < nI i from Int32.lt_of_lt_of_le (b := nI 0) (by decide) (Int32.not_lt.mp h.1)) h.2
  | succ n =>
    have e : nI (n + 1) - nI 1 = nI n := by rw [pk_sub (by omega)]; rfl
    rw [e, nI_ltI (by omega) hi] at h
    omega
theorem inB_f {x : Int32} {n : Nat} (hn : n < 2147483648) (h : inB x (nI 0) (nI n - nI 1) = false) : ∀ i, i < n → x ≠ nI i := by
  intro i hi e
  subst e
  cases n with
  | zero => omega
  | succ n =>
    have e : nI (n + 1) - nI 1 = nI n := by rw [pk_sub (by omega)]; rfl
    rw [e, inB_nI (by omega) (by decide) (by omega), decide_eq_false_iff_not] at h
    omega
theorem pk_at {i : Nat} : ∀ (l : List Nat) (c : Nat), c + l.length < 2147483648 → i < l.length → pk (nI (c + i)) l c = nI (l.getD i 0) := by
  induction i with
  | zero =>
    intro l c hc hi
    cases l with
    | nil => exact absurd hi (by simp)
    | cons a t => rw [Nat.add_zero, pk, if_pos rfl]; rfl
  | succ i ih =>
    intro l c hc hi
    cases l with
    | nil => exact absurd hi (by simp)
    | cons a t =>
      rw [List.length_cons] at hc hi
      rw [pk, if_neg (fun z => by have := (nI_eq (by omega) (by omega)).mp z; omega), show c + (i + 1) = c + 1 + i by omega, ih t (c + 1) (by omega) (by omega)]
      rfl
theorem pk_no {x : Int32} : ∀ (l : List Nat) (c : Nat), (∀ i, i < l.length → x ≠ nI (c + i)) → pk x l c = -1
  | [], _, _ => rfl
  | a :: t, c, h => by
    rw [pk, if_neg (fun z => h 0 (by simp) z.symm), pk_no t (c + 1) (fun i hi => by
      have := h (i + 1) (by rw [List.length_cons]; omega)
      rw [show c + 1 + i = c + (i + 1) by omega]; exact this)]
theorem wl_at {g : Nat → Nat} {l : List Nat} {i : Nat} (h : i < l.length) : wl g l i = l.getD i 0 := by unfold wl; rw [if_pos h]
theorem pre_le {b : Nat → Nat} {S : Nat → Nat → Bool} (hS : ∀ f t, S f t = true → isW (b f) = true) (hw : wNo b ≤ 12) : (preL S 25).length ≤ 300 := by
  have h := preL_le hS 25
  unfold wNo at hw
  omega
theorem fits_loc {b : Nat → Nat} (h : fitsB b = true) : ∃ k, loc7 b 7 = some k := by
  unfold fitsB at h
  cases e : loc7 b 7 with
  | none => rw [e] at h; cases h
  | some k => exact ⟨k, rfl⟩
set_option maxHeartbeats 4000000 in
set_option maxRecDepth 100000 in
theorem okX6_areSquares_in {i j : Nat} (hi : i < 25) (hj : j < 25) (h : qH) : Ok MX6_areSquares [.ref 40, .int (nI i), .int (nI j)] (h) (some (.int (nI 1))) (h) := by
  refine ok_of (by decide +kernel) (Nat.zero_le _) (Nat.le_of_ble_eq_true rfl) ?_
  intro X C E
  show Ex X MX6_areSquares 0 [(0, .ref 40), (1, .int (nI i)), (2, .int (nI j))] [] (h)
  refine x_iload_n C dX6_areSquares_0 rfl ?_
  refine x_callS1i C (okX6_isSquare _ _) lkX6_64 miX6_isSquare mtX6_isSquare maX6_isSquare ⟨Nat.le_of_ble_eq_true rfl, Nat.le_of_ble_eq_true rfl⟩ (Nat.le_of_ble_eq_true rfl) dX6_areSquares_1 ?_
  rw [isSq_nI (by omega), decide_eq_true hi]
  refine x_if_eqB C 18 dX6_areSquares_4 (by decide) (fun c4 => ?_) (fun c4 => ?_)
  · cases c4
  · refine x_iload_n C dX6_areSquares_7 rfl ?_
    refine x_callS1i C (okX6_isSquare _ _) lkX6_64 miX6_isSquare mtX6_isSquare maX6_isSquare ⟨Nat.le_of_ble_eq_true rfl, Nat.le_of_ble_eq_true rfl⟩ (Nat.le_of_ble_eq_true rfl) dX6_areSquares_8 ?_
    rw [isSq_nI (by omega), decide_eq_true hj]
    refine x_if_eqB C 18 dX6_areSquares_11 (by decide) (fun c11 => ?_) (fun c11 => ?_)
    · cases c11
    · refine x_iconst C (v := nI 1) dX6_areSquares_14 (by decide +kernel) ?_
      refine x_goto C 19 dX6_areSquares_15 (by decide) ?_
      exact x_iret E .boolean dX6_areSquares_19 rfl rfl rfl rfl
set_option maxHeartbeats 4000000 in
set_option maxRecDepth 100000 in
theorem okX6_areSquares_out {x y : Int32} (hx : isSq x = false ∨ isSq y = false) (h : qH) : Ok MX6_areSquares [.ref 40, .int x, .int y] (h) (some (.int (nI 0))) (h) := by
  refine ok_of (by decide +kernel) (Nat.zero_le _) (Nat.le_of_ble_eq_true rfl) ?_
  intro X C E
  show Ex X MX6_areSquares 0 [(0, .ref 40), (1, .int x), (2, .int y)] [] (h)
  refine x_iload_n C dX6_areSquares_0 rfl ?_
  refine x_callS1i C (okX6_isSquare _ _) lkX6_64 miX6_isSquare mtX6_isSquare maX6_isSquare ⟨Nat.le_of_ble_eq_true rfl, Nat.le_of_ble_eq_true rfl⟩ (Nat.le_of_ble_eq_true rfl) dX6_areSquares_1 ?_
  refine x_if_eqB C 18 dX6_areSquares_4 (by decide) (fun c4 => ?_) (fun c4 => ?_)
  · refine x_iconst C (v := nI 0) dX6_areSquares_18 (by decide +kernel) ?_
    exact x_iret E .boolean dX6_areSquares_19 rfl rfl rfl rfl
  · refine x_iload_n C dX6_areSquares_7 rfl ?_
    refine x_callS1i C (okX6_isSquare _ _) lkX6_64 miX6_isSquare mtX6_isSquare maX6_isSquare ⟨Nat.le_of_ble_eq_true rfl, Nat.le_of_ble_eq_true rfl⟩ (Nat.le_of_ble_eq_true rfl) dX6_areSquares_8 ?_
    refine x_if_eqB C 18 dX6_areSquares_11 (by decide) (fun c11 => ?_) (fun c11 => ?_)
    · refine x_iconst C (v := nI 0) dX6_areSquares_18 (by decide +kernel) ?_
      exact x_iret E .boolean dX6_areSquares_19 rfl rfl rfl rfl
    · exact absurd hx (fun z => z.elim (fun q => by rw [c4] at q; cases q) (fun q => by rw [c11] at q; cases q))
set_option maxHeartbeats 4000000 in
set_option maxRecDepth 100000 in
theorem okX6_move {P : qPs} {Hs : qHs} {T : qTs} {L : qLs} {S : qSs} {V : qVs} {ml : qml} {mt : qmt} {s bf sv past : Nat → Nat} {isv : Bool} {pm : Nat} {r1 d1 it lo : Int32} {mv ks tn : Nat → Nat} {mn : Nat} {b : Nat → Nat} (hb : ∀ i, b i < 8) (hsb : Ag s b) (hu : Uq b 7) (hw : wNo b ≤ 12) (x : Int32) : Ok MX6_move [.ref 40, .int x] (HH P Hs T L S V (s, bf, sv, past, isv, pm) (r1, d1, it, lo) (mv, mn, ks, tn) ml mt) (some (.int (pk x (preL (movP b) 25) 0))) (HH P Hs T L S V (s, bf, sv, past, isv, pm) (r1, d1, it, loAll (fun _ _ => false) b lo 25) (wl mv (preL (movP b) 25), (preL (movP b) 25).length, ks, tn) ml mt) := by
  refine ok_of (by decide +kernel) (Nat.zero_le _) (Nat.le_of_ble_eq_true rfl) ?_
  intro X C E
  show Ex X MX6_move 0 [(0, .ref 40), (1, .int x)] [] (HH P Hs T L S V (s, bf, sv, past, isv, pm) (r1, d1, it, lo) (mv, mn, ks, tn) ml mt)
  have hpl := pre_le (S := movP b) (fun f t h => mov_w h) hw
  cases hin : inB x (nI 0) (nI (preL (movP b) 25).length - nI 1) with
  | false =>
    refine x_aload_n C dX6_move_0 rfl ?_
    refine x_iconst C (v := (-1)) dX6_move_1 (by decide +kernel) ?_
    refine x_iconst C (v := (-1)) dX6_move_2 (by decide +kernel) ?_
    refine x_callV2v C (okX6_tells_a hb hsb hu hw) lkX6_145 miX6_tells msX6_tells maX6_tells ⟨Nat.le_of_ble_eq_true rfl, Nat.le_of_ble_eq_true rfl⟩ (Nat.le_of_ble_eq_true rfl) rfl rfl dX6_move_3 ?_
    show Ex X MX6_move _ _ _ (HH P Hs T L S V (s, bf, sv, past, isv, pm) (r1, d1, it, loAll (fun _ _ => false) b lo 25) (wl mv (preL (movP b) 25), (preL (movP b) 25).length, ks, tn) ml mt)
    refine x_iload_n C dX6_move_6 rfl ?_
    refine x_iconst C (v := nI 0) dX6_move_7 (by decide +kernel) ?_
    refine x_aload_n C dX6_move_8 rfl ?_
    refine x_getfield C qk6 11 (by decide) lfX6_139 dX6_move_9 rfl rfl ?_
    refine x_iconst C (v := nI 1) dX6_move_12 (by decide +kernel) ?_
    refine x_isub C dX6_move_13 ?_
    refine x_callS3i C (okX6_in _ _ _ _) lkX6_60 miX6_in mtX6_in maX6_in ⟨Nat.le_of_ble_eq_true rfl, Nat.le_of_ble_eq_true rfl⟩ (Nat.le_of_ble_eq_true rfl) dX6_move_14 ?_
    rw [hin]
    refine x_if_eqB C 29 dX6_move_17 (by decide) (fun c17 => ?_) (fun c17 => ?_)
    · refine x_iconst C (v := (-1)) dX6_move_29 (by decide +kernel) ?_
      exact x_iret E .int dX6_move_30 rfl rfl (by rw [pk_no _ 0 (fun i hi => by rw [Nat.zero_add]; exact inB_f (by omega) hin i hi)]) rfl
    · cases c17
  | true =>
    obtain ⟨i, hi, rfl⟩ := inB_of (by omega) hin
    refine x_aload_n C dX6_move_0 rfl ?_
    refine x_iconst C (v := (-1)) dX6_move_1 (by decide +kernel) ?_
    refine x_iconst C (v := (-1)) dX6_move_2 (by decide +kernel) ?_
    refine x_callV2v C (okX6_tells_a hb hsb hu hw) lkX6_145 miX6_tells msX6_tells maX6_tells ⟨Nat.le_of_ble_eq_true rfl, Nat.le_of_ble_eq_true rfl⟩ (Nat.le_of_ble_eq_true rfl) rfl rfl dX6_move_3 ?_
    show Ex X MX6_move _ _ _ (HH P Hs T L S V (s, bf, sv, past, isv, pm) (r1, d1, it, loAll (fun _ _ => false) b lo 25) (wl mv (preL (movP b) 25), (preL (movP b) 25).length, ks, tn) ml mt)
    refine x_iload_n C dX6_move_6 rfl ?_
    refine x_iconst C (v := nI 0) dX6_move_7 (by decide +kernel) ?_
    refine x_aload_n C dX6_move_8 rfl ?_
    refine x_getfield C qk6 11 (by decide) lfX6_139 dX6_move_9 rfl rfl ?_
    refine x_iconst C (v := nI 1) dX6_move_12 (by decide +kernel) ?_
    refine x_isub C dX6_move_13 ?_
    refine x_callS3i C (okX6_in _ _ _ _) lkX6_60 miX6_in mtX6_in maX6_in ⟨Nat.le_of_ble_eq_true rfl, Nat.le_of_ble_eq_true rfl⟩ (Nat.le_of_ble_eq_true rfl) dX6_move_14 ?_
    rw [hin]
    refine x_if_eqB C 29 dX6_move_17 (by decide) (fun c17 => ?_) (fun c17 => ?_)
    · cases c17
    · refine x_aload_n C dX6_move_20 rfl ?_
      refine x_getfield C qk6 10 (by decide) lfX6_26 dX6_move_21 rfl rfl ?_
      refine x_iload_n C dX6_move_24 rfl ?_
      refine x_iald C dX6_move_25 HM_mv (by omega) (by decide) ?_
      refine x_top (congrArg nI (wl_at hi)) ?_
      refine x_goto C 30 dX6_move_26 (by decide) ?_
      exact x_iret E .int dX6_move_30 rfl rfl (by rw [show nI i = nI (0 + i) by rw [Nat.zero_add], pk_at _ 0 (by omega) hi]) rfl
set_option maxHeartbeats 4000000 in
set_option maxRecDepth 100000 in
theorem okX6_key_p0 {P : qPs} {Hs : qHs} {T : qTs} {L : qLs} {S : qSs} {V : qVs} {mr : qmr} {mm : qmm} {ml : qml} {mt : qmt} {s bf sv past : Nat → Nat} {isv : Bool} {pm : Nat} {b : Nat → Nat} (hb : ∀ i, b i < 8) (hsb : Ag s b) (hu : Uq b 7) (hf : fitsB b = false) (x : Int32) : Ok MX6_key [.ref 40, .int x] (HH P Hs T L S V (s, bf, sv, past, isv, pm) mr mm ml mt) (some (.int (-4))) (HH P Hs T L S V (s, bf, sv, past, isv, pm) mr mm ml mt) := by
  refine ok_of (by decide +kernel) (Nat.zero_le _) (Nat.le_of_ble_eq_true rfl) ?_
  intro X C E
  show Ex X MX6_key 0 [(0, .ref 40), (1, .int x)] [] (HH P Hs T L S V (s, bf, sv, past, isv, pm) mr mm ml mt)
  refine x_aload_n C dX6_key_0 rfl ?_
  refine x_callV0i C (okX6_fits hb hsb hu) lkX6_132 miX6_fits msX6_fits maX6_fits ⟨Nat.le_of_ble_eq_true rfl, Nat.le_of_ble_eq_true rfl⟩ (Nat.le_of_ble_eq_true rfl) rfl rfl dX6_key_1 ?_
  rw [hf]
  refine x_if_neB C 10 dX6_key_4 (by decide) (fun c4 => ?_) (fun c4 => ?_)
  · cases c4
  · refine x_bipush C (v := (-4)) dX6_key_7 (by decide +kernel) ?_
    exact x_iret E .int dX6_key_9 rfl rfl rfl rfl
set_option maxHeartbeats 4000000 in
set_option maxRecDepth 100000 in
theorem okX6_key_p1 {P : qPs} {Hs : qHs} {T : qTs} {L : qLs} {S : qSs} {V : qVs} {ml : qml} {mt : qmt} {s bf sv past : Nat → Nat} {isv : Bool} {pm : Nat} {r1 d1 it lo : Int32} {mv ks tn : Nat → Nat} {mn : Nat} {b : Nat → Nat} (hb : ∀ i, b i < 8) (hsb : Ag s b) (hu : Uq b 7) (hw : wNo b ≤ 12) (hf : fitsB b = true) (x : Int32) : Ok MX6_key [.ref 40, .int x] (HH P Hs T L S V (s, bf, sv, past, isv, pm) (r1, d1, it, lo) (mv, mn, ks, tn) ml mt) (some (.int (pk x (preL (selB b 3) 25) 0))) (HH P Hs T L S V (s, bf, sv, past, isv, pm) (r1, d1, it, loAll (movP b) b lo 25) (wl mv (preL (selB b 3) 25), (preL (selB b 3) 25).length, ks, tn) ml mt) := by
  refine ok_of (by decide +kernel) (Nat.zero_le _) (Nat.le_of_ble_eq_true rfl) ?_
  intro X C E
  show Ex X MX6_key 0 [(0, .ref 40), (1, .int x)] [] (HH P Hs T L S V (s, bf, sv, past, isv, pm) (r1, d1, it, lo) (mv, mn, ks, tn) ml mt)
  obtain ⟨k, hl⟩ := fits_loc hf
  have hpl := pre_le (S := selB b 3) (fun f t h => sel_w h) hw
  cases hin : inB x (nI 0) (nI (preL (selB b 3) 25).length - nI 1) with
  | false =>
    refine x_aload_n C dX6_key_0 rfl ?_
    refine x_callV0i C (okX6_fits hb hsb hu) lkX6_132 miX6_fits msX6_fits maX6_fits ⟨Nat.le_of_ble_eq_true rfl, Nat.le_of_ble_eq_true rfl⟩ (Nat.le_of_ble_eq_true rfl) rfl rfl dX6_key_1 ?_
    rw [hf]
    refine x_if_neB C 10 dX6_key_4 (by decide) (fun c4 => ?_) (fun c4 => ?_)
    · refine x_aload_n C dX6_key_10 rfl ?_
      refine x_iconst C (v := (-1)) dX6_key_11 (by decide +kernel) ?_
      refine x_iconst C (v := nI 3) dX6_key_12 (by decide +kernel) ?_
      refine x_callV2v C (okX6_tells_b hb hsb hu (by decide) hl hw) lkX6_145 miX6_tells msX6_tells maX6_tells ⟨Nat.le_of_ble_eq_true rfl, Nat.le_of_ble_eq_true rfl⟩ (Nat.le_of_ble_eq_true rfl) rfl rfl dX6_key_13 ?_
      show Ex X MX6_key _ _ _ (HH P Hs T L S V (s, bf, sv, past, isv, pm) (r1, d1, it, loAll (movP b) b lo 25) (wl mv (preL (selB b 3) 25), (preL (selB b 3) 25).length, ks, tn) ml mt)
      refine x_iload_n C dX6_key_16 rfl ?_
      refine x_iconst C (v := nI 0) dX6_key_17 (by decide +kernel) ?_
      refine x_aload_n C dX6_key_18 rfl ?_
      refine x_getfield C qk6 11 (by decide) lfX6_139 dX6_key_19 rfl rfl ?_
      refine x_iconst C (v := nI 1) dX6_key_22 (by decide +kernel) ?_
      refine x_isub C dX6_key_23 ?_
      refine x_callS3i C (okX6_in _ _ _ _) lkX6_60 miX6_in mtX6_in maX6_in ⟨Nat.le_of_ble_eq_true rfl, Nat.le_of_ble_eq_true rfl⟩ (Nat.le_of_ble_eq_true rfl) dX6_key_24 ?_
      rw [hin]
      refine x_if_eqB C 39 dX6_key_27 (by decide) (fun c27 => ?_) (fun c27 => ?_)
      · refine x_iconst C (v := (-1)) dX6_key_39 (by decide +kernel) ?_
        exact x_iret E .int dX6_key_40 rfl rfl (by rw [pk_no _ 0 (fun i hi => by rw [Nat.zero_add]; exact inB_f (by omega) hin i hi)]) rfl
      · cases c27
    · cases c4
  | true =>
    obtain ⟨i, hi, rfl⟩ := inB_of (by omega) hin
    refine x_aload_n C dX6_key_0 rfl ?_
    refine x_callV0i C (okX6_fits hb hsb hu) lkX6_132 miX6_fits msX6_fits maX6_fits ⟨Nat.le_of_ble_eq_true rfl, Nat.le_of_ble_eq_true rfl⟩ (Nat.le_of_ble_eq_true rfl) rfl rfl dX6_key_1 ?_
    rw [hf]
    refine x_if_neB C 10 dX6_key_4 (by decide) (fun c4 => ?_) (fun c4 => ?_)
    · refine x_aload_n C dX6_key_10 rfl ?_
      refine x_iconst C (v := (-1)) dX6_key_11 (by decide +kernel) ?_
      refine x_iconst C (v := nI 3) dX6_key_12 (by decide +kernel) ?_
      refine x_callV2v C (okX6_tells_b hb hsb hu (by decide) hl hw) lkX6_145 miX6_tells msX6_tells maX6_tells ⟨Nat.le_of_ble_eq_true rfl, Nat.le_of_ble_eq_true rfl⟩ (Nat.le_of_ble_eq_true rfl) rfl rfl dX6_key_13 ?_
      show Ex X MX6_key _ _ _ (HH P Hs T L S V (s, bf, sv, past, isv, pm) (r1, d1, it, loAll (movP b) b lo 25) (wl mv (preL (selB b 3) 25), (preL (selB b 3) 25).length, ks, tn) ml mt)
      refine x_iload_n C dX6_key_16 rfl ?_
      refine x_iconst C (v := nI 0) dX6_key_17 (by decide +kernel) ?_
      refine x_aload_n C dX6_key_18 rfl ?_
      refine x_getfield C qk6 11 (by decide) lfX6_139 dX6_key_19 rfl rfl ?_
      refine x_iconst C (v := nI 1) dX6_key_22 (by decide +kernel) ?_
      refine x_isub C dX6_key_23 ?_
      refine x_callS3i C (okX6_in _ _ _ _) lkX6_60 miX6_in mtX6_in maX6_in ⟨Nat.le_of_ble_eq_true rfl, Nat.le_of_ble_eq_true rfl⟩ (Nat.le_of_ble_eq_true rfl) dX6_key_24 ?_
      rw [hin]
      refine x_if_eqB C 39 dX6_key_27 (by decide) (fun c27 => ?_) (fun c27 => ?_)
      · cases c27
      · refine x_aload_n C dX6_key_30 rfl ?_
        refine x_getfield C qk6 10 (by decide) lfX6_26 dX6_key_31 rfl rfl ?_
        refine x_iload_n C dX6_key_34 rfl ?_
        refine x_iald C dX6_key_35 HM_mv (by omega) (by decide) ?_
        refine x_top (congrArg nI (wl_at hi)) ?_
        refine x_goto C 40 dX6_key_36 (by decide) ?_
        exact x_iret E .int dX6_key_40 rfl rfl (by rw [show nI i = nI (0 + i) by rw [Nat.zero_add], pk_at _ 0 (by omega) hi]) rfl
    · cases c4
def kindL (b : Nat → Nat) (lo : Int32) (i j : Nat) : Int32 := if movP b i j = true ∧ fitsB b = true then low (escP (aft b i j)) 25 0 else lo
set_option maxHeartbeats 4000000 in
set_option maxRecDepth 100000 in
theorem okX6_kind_out {P : qPs} {Hs : qHs} {T : qTs} {L : qLs} {S : qSs} {V : qVs} {mr : qmr} {mm : qmm} {ml : qml} {mt : qmt} {s bf sv past : Nat → Nat} {isv : Bool} {pm : Nat} {x y : Int32} (hx : isSq x = false ∨ isSq y = false) : Ok MX6_kind [.ref 40, .int x, .int y] (HH P Hs T L S V (s, bf, sv, past, isv, pm) mr mm ml mt) (some (.int (-1))) (HH P Hs T L S V (s, bf, sv, past, isv, pm) mr mm ml mt) := by
  refine ok_of (by decide +kernel) (Nat.zero_le _) (Nat.le_of_ble_eq_true rfl) ?_
  intro X C E
  show Ex X MX6_kind 0 [(0, .ref 40), (1, .int x), (2, .int y)] [] (HH P Hs T L S V (s, bf, sv, past, isv, pm) mr mm ml mt)
  refine x_aload_n C dX6_kind_0 rfl ?_
  refine x_iload_n C dX6_kind_1 rfl ?_
  refine x_iload_n C dX6_kind_2 rfl ?_
  refine x_callV2i C (okX6_areSquares_out hx _) lkX6_149 miX6_areSquares msX6_areSquares maX6_areSquares ⟨Nat.le_of_ble_eq_true rfl, Nat.le_of_ble_eq_true rfl⟩ (Nat.le_of_ble_eq_true rfl) rfl rfl dX6_kind_3 ?_
  refine x_if_eqN C 18 dX6_kind_6 (by decide) (by omega) (fun c6 => ?_) (fun c6 => ?_)
  · refine x_iconst C (v := (-1)) dX6_kind_18 (by decide +kernel) ?_
    exact x_iret E .int dX6_kind_19 rfl rfl rfl rfl
  · exact absurd rfl c6
set_option maxHeartbeats 4000000 in
set_option maxRecDepth 100000 in
theorem okX6_kind_in {P : qPs} {Hs : qHs} {T : qTs} {L : qLs} {S : qSs} {V : qVs} {mm : qmm} {ml : qml} {mt : qmt} {s bf sv past : Nat → Nat} {isv : Bool} {pm : Nat} {r1 d1 it lo : Int32} {b : Nat → Nat} (hb : ∀ i, b i < 8) (hsb : Ag s b) (hu : Uq b 7) {i j : Nat} (hi : i < 25) (hj : j < 25) : Ok MX6_kind [.ref 40, .int (nI i), .int (nI j)] (HH P Hs T L S V (s, bf, sv, past, isv, pm) (r1, d1, it, lo) mm ml mt) (some (.int (kindF b i j))) (HH P Hs T L S V (s, bf, sv, past, isv, pm) (r1, d1, it, kindL b lo i j) mm ml mt) := by
  refine ok_of (by decide +kernel) (Nat.zero_le _) (Nat.le_of_ble_eq_true rfl) ?_
  intro X C E
  show Ex X MX6_kind 0 [(0, .ref 40), (1, .int (nI i)), (2, .int (nI j))] [] (HH P Hs T L S V (s, bf, sv, past, isv, pm) (r1, d1, it, lo) mm ml mt)
  refine x_aload_n C dX6_kind_0 rfl ?_
  refine x_iload_n C dX6_kind_1 rfl ?_
  refine x_iload_n C dX6_kind_2 rfl ?_
  refine x_callV2i C (okX6_areSquares_in hi hj _) lkX6_149 miX6_areSquares msX6_areSquares maX6_areSquares ⟨Nat.le_of_ble_eq_true rfl, Nat.le_of_ble_eq_true rfl⟩ (Nat.le_of_ble_eq_true rfl) rfl rfl dX6_kind_3 ?_
  refine x_if_eqN C 18 dX6_kind_6 (by decide) (by omega) (fun c6 => ?_) (fun c6 => ?_)
  · exact absurd c6 (by decide)
  · refine x_aload_n C dX6_kind_9 rfl ?_
    refine x_iload_n C dX6_kind_10 rfl ?_
    refine x_iload_n C dX6_kind_11 rfl ?_
    refine x_callV2i C (okX6_isMove hb hsb hu hi hj) lkX6_117 miX6_isMove msX6_isMove maX6_isMove ⟨Nat.le_of_ble_eq_true rfl, Nat.le_of_ble_eq_true rfl⟩ (Nat.le_of_ble_eq_true rfl) rfl rfl dX6_kind_12 ?_
    refine x_if_neB C 20 dX6_kind_15 (by decide) (fun c15 => ?_) (fun c15 => ?_)
    · refine x_aload_n C dX6_kind_20 rfl ?_
      refine x_callV0i C (okX6_fits hb hsb hu) lkX6_132 miX6_fits msX6_fits maX6_fits ⟨Nat.le_of_ble_eq_true rfl, Nat.le_of_ble_eq_true rfl⟩ (Nat.le_of_ble_eq_true rfl) rfl rfl dX6_kind_21 ?_
      refine x_if_eqB C 36 dX6_kind_24 (by decide) (fun c24 => ?_) (fun c24 => ?_)
      · refine x_bipush C (v := (-4)) dX6_kind_36 (by decide +kernel) ?_
        exact x_iret E .int dX6_kind_38 rfl rfl (by unfold kindF; rw [if_neg (by rw [c15]; decide), if_pos c24]) (by unfold kindL; rw [if_neg (fun z => by rw [c24] at z; cases z.2)])
      · obtain ⟨k, hl⟩ := fits_loc c24
        obtain ⟨hlk, huk⟩ := aft_king hb hi hj hl hu c15
        refine x_aload_n C dX6_kind_27 rfl ?_
        refine x_iload_n C dX6_kind_28 rfl ?_
        refine x_iload_n C dX6_kind_29 rfl ?_
        refine x_callV2i C (okX6_kindOf hb hsb hi hj hlk huk) lkX6_142 miX6_kindOf msX6_kindOf maX6_kindOf ⟨Nat.le_of_ble_eq_true rfl, Nat.le_of_ble_eq_true rfl⟩ (Nat.le_of_ble_eq_true rfl) rfl rfl dX6_kind_30 ?_
        refine x_goto C 38 dX6_kind_33 (by decide) ?_
        exact x_iret E .int dX6_kind_38 rfl rfl (by unfold kindF; rw [if_neg (by rw [c15]; decide), if_neg (by rw [c24]; decide)]) (by unfold kindL; rw [if_pos ⟨c15, c24⟩])
    · refine x_iconst C (v := (-1)) dX6_kind_18 (by decide +kernel) ?_
      exact x_iret E .int dX6_kind_19 rfl rfl (by unfold kindF; rw [if_pos c15]) (by unfold kindL; rw [if_neg (fun z => by rw [c15] at z; cases z.1)])
def refuL (b : Nat → Nat) (lo : Int32) (i j : Nat) : Int32 := if movP b i j = true ∧ fitsB b = true then low (escP (aft b i j)) 25 0 else lo
set_option maxHeartbeats 4000000 in
set_option maxRecDepth 100000 in
theorem okX6_refutation_out {P : qPs} {Hs : qHs} {T : qTs} {L : qLs} {S : qSs} {V : qVs} {mr : qmr} {mm : qmm} {ml : qml} {mt : qmt} {s bf sv past : Nat → Nat} {isv : Bool} {pm : Nat} {x y : Int32} (hx : isSq x = false ∨ isSq y = false) : Ok MX6_refutation [.ref 40, .int x, .int y] (HH P Hs T L S V (s, bf, sv, past, isv, pm) mr mm ml mt) (some (.int (-1))) (HH P Hs T L S V (s, bf, sv, past, isv, pm) mr mm ml mt) := by
  refine ok_of (by decide +kernel) (Nat.zero_le _) (Nat.le_of_ble_eq_true rfl) ?_
  intro X C E
  show Ex X MX6_refutation 0 [(0, .ref 40), (1, .int x), (2, .int y)] [] (HH P Hs T L S V (s, bf, sv, past, isv, pm) mr mm ml mt)
  refine x_aload_n C dX6_refutation_0 rfl ?_
  refine x_iload_n C dX6_refutation_1 rfl ?_
  refine x_iload_n C dX6_refutation_2 rfl ?_
  refine x_callV2i C (okX6_areSquares_out hx _) lkX6_149 miX6_areSquares msX6_areSquares maX6_areSquares ⟨Nat.le_of_ble_eq_true rfl, Nat.le_of_ble_eq_true rfl⟩ (Nat.le_of_ble_eq_true rfl) rfl rfl dX6_refutation_3 ?_
  refine x_if_neN C 11 dX6_refutation_6 (by decide) (by omega) (fun c6 => ?_) (fun c6 => ?_)
  · exact absurd rfl c6
  · refine x_iconst C (v := (-1)) dX6_refutation_9 (by decide +kernel) ?_
    exact x_iret E .int dX6_refutation_10 rfl rfl rfl rfl
set_option maxHeartbeats 4000000 in
set_option maxRecDepth 100000 in
theorem okX6_refutation_in {P : qPs} {Hs : qHs} {T : qTs} {L : qLs} {S : qSs} {V : qVs} {mm : qmm} {ml : qml} {mt : qmt} {s bf sv past : Nat → Nat} {isv : Bool} {pm : Nat} {r1 d1 it lo : Int32} {b : Nat → Nat} (hb : ∀ i, b i < 8) (hsb : Ag s b) (hu : Uq b 7) {i j : Nat} (hi : i < 25) (hj : j < 25) : Ok MX6_refutation [.ref 40, .int (nI i), .int (nI j)] (HH P Hs T L S V (s, bf, sv, past, isv, pm) (r1, d1, it, lo) mm ml mt) (some (.int (refuF b i j))) (HH P Hs T L S V (s, bf, sv, past, isv, pm) (r1, d1, it, refuL b lo i j) mm ml mt) := by
  refine ok_of (by decide +kernel) (Nat.zero_le _) (Nat.le_of_ble_eq_true rfl) ?_
  intro X C E
  show Ex X MX6_refutation 0 [(0, .ref 40), (1, .int (nI i)), (2, .int (nI j))] [] (HH P Hs T L S V (s, bf, sv, past, isv, pm) (r1, d1, it, lo) mm ml mt)
  have hkb := kindB_le (aft b i j)
  refine x_aload_n C dX6_refutation_0 rfl ?_
  refine x_iload_n C dX6_refutation_1 rfl ?_
  refine x_iload_n C dX6_refutation_2 rfl ?_
  refine x_callV2i C (okX6_areSquares_in hi hj _) lkX6_149 miX6_areSquares msX6_areSquares maX6_areSquares ⟨Nat.le_of_ble_eq_true rfl, Nat.le_of_ble_eq_true rfl⟩ (Nat.le_of_ble_eq_true rfl) rfl rfl dX6_refutation_3 ?_
  refine x_if_neN C 11 dX6_refutation_6 (by decide) (by omega) (fun c6 => ?_) (fun c6 => ?_)
  · refine x_aload_n C dX6_refutation_11 rfl ?_
    refine x_callV0i C (okX6_fits hb hsb hu) lkX6_132 miX6_fits msX6_fits maX6_fits ⟨Nat.le_of_ble_eq_true rfl, Nat.le_of_ble_eq_true rfl⟩ (Nat.le_of_ble_eq_true rfl) rfl rfl dX6_refutation_12 ?_
    refine x_if_neB C 21 dX6_refutation_15 (by decide) (fun c15 => ?_) (fun c15 => ?_)
    · refine x_aload_n C dX6_refutation_21 rfl ?_
      refine x_iload_n C dX6_refutation_22 rfl ?_
      refine x_iload_n C dX6_refutation_23 rfl ?_
      refine x_callV2i C (okX6_isMove hb hsb hu hi hj) lkX6_117 miX6_isMove msX6_isMove maX6_isMove ⟨Nat.le_of_ble_eq_true rfl, Nat.le_of_ble_eq_true rfl⟩ (Nat.le_of_ble_eq_true rfl) rfl rfl dX6_refutation_24 ?_
      refine x_if_eqB C 47 dX6_refutation_27 (by decide) (fun c27 => ?_) (fun c27 => ?_)
      · refine x_iconst C (v := (-1)) dX6_refutation_47 (by decide +kernel) ?_
        exact x_iret E .int dX6_refutation_48 rfl rfl (by unfold refuF; rw [if_neg (by rw [c15]; decide), if_neg (fun z => by rw [c27] at z; cases z.1)]) (by unfold refuL; rw [if_neg (fun z => by rw [c27] at z; cases z.1)])
      · obtain ⟨k, hl⟩ := fits_loc c15
        obtain ⟨hlk, huk⟩ := aft_king hb hi hj hl hu c27
        refine x_aload_n C dX6_refutation_30 rfl ?_
        refine x_iload_n C dX6_refutation_31 rfl ?_
        refine x_iload_n C dX6_refutation_32 rfl ?_
        refine x_callV2i C (okX6_kindOf hb hsb hi hj hlk huk) lkX6_142 miX6_kindOf msX6_kindOf maX6_kindOf ⟨Nat.le_of_ble_eq_true rfl, Nat.le_of_ble_eq_true rfl⟩ (Nat.le_of_ble_eq_true rfl) rfl rfl dX6_refutation_33 ?_
        refine x_iconst C (v := nI 2) dX6_refutation_36 (by decide +kernel) ?_
        refine x_icmp_neN C 47 dX6_refutation_37 (by decide) (by omega) (by omega) (fun c37 => ?_) (fun c37 => ?_)
        · refine x_iconst C (v := (-1)) dX6_refutation_47 (by decide +kernel) ?_
          exact x_iret E .int dX6_refutation_48 rfl rfl (by unfold refuF; rw [if_neg (by rw [c15]; decide), if_neg (fun z => c37 z.2)]) (by unfold refuL; rw [if_pos ⟨c27, c15⟩])
        · refine x_aload_n C dX6_refutation_40 rfl ?_
          refine x_getfield C qk6 9 (by decide) lfX6_136 dX6_refutation_41 rfl rfl ?_
          refine x_goto C 48 dX6_refutation_44 (by decide) ?_
          exact x_iret E .int dX6_refutation_48 rfl rfl (by unfold refuF; rw [if_neg (by rw [c15]; decide), if_pos ⟨c27, c37⟩]) (by unfold refuL; rw [if_pos ⟨c27, c15⟩])
    · refine x_bipush C (v := (-4)) dX6_refutation_18 (by decide +kernel) ?_
      exact x_iret E .int dX6_refutation_20 rfl rfl (by unfold refuF; rw [if_pos c15]) (by unfold refuL; rw [if_neg (fun z => by rw [c15] at z; cases z.2)])
  · exact absurd c6 (by decide)
set_option maxHeartbeats 4000000 in
set_option maxRecDepth 100000 in
theorem okX6_manyOf_a {P : qPs} {Hs : qHs} {T : qTs} {L : qLs} {S : qSs} {V : qVs} {ml : qml} {mt : qmt} {s bf sv past : Nat → Nat} {isv : Bool} {pm : Nat} {r1 d1 it lo : Int32} {mv ks tn : Nat → Nat} {mn : Nat} {b : Nat → Nat} (hb : ∀ i, b i < 8) (hsb : Ag s b) (hu : Uq b 7) (hw : wNo b ≤ 12)  : Ok MX6_manyOf [.ref 40, .int (-1)] (HH P Hs T L S V (s, bf, sv, past, isv, pm) (r1, d1, it, lo) (mv, mn, ks, tn) ml mt) (some (.int (nI (preL (movP b) 25).length))) (HH P Hs T L S V (s, bf, sv, past, isv, pm) (r1, d1, it, loAll (fun _ _ => false) b lo 25) (wl mv (preL (movP b) 25), (preL (movP b) 25).length, ks, tn) ml mt) := by
  refine ok_of (by decide +kernel) (Nat.zero_le _) (Nat.le_of_ble_eq_true rfl) ?_
  intro X C E
  show Ex X MX6_manyOf 0 [(0, .ref 40), (1, .int (-1))] [] (HH P Hs T L S V (s, bf, sv, past, isv, pm) (r1, d1, it, lo) (mv, mn, ks, tn) ml mt)
  have hm : Ok MX6_tells [.ref 40, .int (-1), .int (-1)] (HH P Hs T L S V (s, bf, sv, past, isv, pm) (r1, d1, it, lo) (mv, mn, ks, tn) ml mt) none (HH P Hs T L S V (s, bf, sv, past, isv, pm) (r1, d1, it, loAll (fun _ _ => false) b lo 25) (wl mv (preL (movP b) 25), (preL (movP b) 25).length, ks, tn) ml mt) := okX6_tells_a hb hsb hu hw
  generalize preL (movP b) 25 = l at E hm
  refine x_aload_n C dX6_manyOf_0 rfl ?_
  refine x_iconst C (v := (-1)) dX6_manyOf_1 (by decide +kernel) ?_
  refine x_iload_n C dX6_manyOf_2 rfl ?_
  refine x_callV2v C hm lkX6_145 miX6_tells msX6_tells maX6_tells ⟨Nat.le_of_ble_eq_true rfl, Nat.le_of_ble_eq_true rfl⟩ (Nat.le_of_ble_eq_true rfl) rfl rfl dX6_manyOf_3 ?_
  refine x_aload_n C dX6_manyOf_6 rfl ?_
  refine x_getfield C qk6 11 (by decide) lfX6_139 dX6_manyOf_7 rfl rfl ?_
  exact x_iret E .int dX6_manyOf_10 rfl rfl rfl rfl
set_option maxHeartbeats 4000000 in
set_option maxRecDepth 100000 in
theorem okX6_manyOf_b {P : qPs} {Hs : qHs} {T : qTs} {L : qLs} {S : qSs} {V : qVs} {ml : qml} {mt : qmt} {s bf sv past : Nat → Nat} {isv : Bool} {pm : Nat} {r1 d1 it lo : Int32} {mv ks tn : Nat → Nat} {mn : Nat} {b : Nat → Nat} (hb : ∀ i, b i < 8) (hsb : Ag s b) (hu : Uq b 7) (hw : wNo b ≤ 12) {q k : Nat} (hq : q ≤ 3) (hl : loc7 b 7 = some k) : Ok MX6_manyOf [.ref 40, .int (nI q)] (HH P Hs T L S V (s, bf, sv, past, isv, pm) (r1, d1, it, lo) (mv, mn, ks, tn) ml mt) (some (.int (nI (preL (selB b q) 25).length))) (HH P Hs T L S V (s, bf, sv, past, isv, pm) (r1, d1, it, loAll (movP b) b lo 25) (wl mv (preL (selB b q) 25), (preL (selB b q) 25).length, ks, tn) ml mt) := by
  refine ok_of (by decide +kernel) (Nat.zero_le _) (Nat.le_of_ble_eq_true rfl) ?_
  intro X C E
  show Ex X MX6_manyOf 0 [(0, .ref 40), (1, .int (nI q))] [] (HH P Hs T L S V (s, bf, sv, past, isv, pm) (r1, d1, it, lo) (mv, mn, ks, tn) ml mt)
  have hm : Ok MX6_tells [.ref 40, .int (-1), .int (nI q)] (HH P Hs T L S V (s, bf, sv, past, isv, pm) (r1, d1, it, lo) (mv, mn, ks, tn) ml mt) none (HH P Hs T L S V (s, bf, sv, past, isv, pm) (r1, d1, it, loAll (movP b) b lo 25) (wl mv (preL (selB b q) 25), (preL (selB b q) 25).length, ks, tn) ml mt) := okX6_tells_b hb hsb hu hq hl hw
  generalize preL (selB b q) 25 = l at E hm
  refine x_aload_n C dX6_manyOf_0 rfl ?_
  refine x_iconst C (v := (-1)) dX6_manyOf_1 (by decide +kernel) ?_
  refine x_iload_n C dX6_manyOf_2 rfl ?_
  refine x_callV2v C hm lkX6_145 miX6_tells msX6_tells maX6_tells ⟨Nat.le_of_ble_eq_true rfl, Nat.le_of_ble_eq_true rfl⟩ (Nat.le_of_ble_eq_true rfl) rfl rfl dX6_manyOf_3 ?_
  refine x_aload_n C dX6_manyOf_6 rfl ?_
  refine x_getfield C qk6 11 (by decide) lfX6_139 dX6_manyOf_7 rfl rfl ?_
  exact x_iret E .int dX6_manyOf_10 rfl rfl rfl rfl
set_option maxHeartbeats 4000000 in
set_option maxRecDepth 100000 in
theorem okX6_many_out {P : qPs} {Hs : qHs} {T : qTs} {L : qLs} {S : qSs} {V : qVs} {mr : qmr} {mm : qmm} {ml : qml} {mt : qmt} {s bf sv past : Nat → Nat} {isv : Bool} {pm : Nat} {x : Int32} (hx : inB x (nI 0) (nI 3) = false) : Ok MX6_many [.ref 40, .int x] (HH P Hs T L S V (s, bf, sv, past, isv, pm) mr mm ml mt) (some (.int (-2))) (HH P Hs T L S V (s, bf, sv, past, isv, pm) mr mm ml mt) := by
  refine ok_of (by decide +kernel) (Nat.zero_le _) (Nat.le_of_ble_eq_true rfl) ?_
  intro X C E
  show Ex X MX6_many 0 [(0, .ref 40), (1, .int x)] [] (HH P Hs T L S V (s, bf, sv, past, isv, pm) mr mm ml mt)
  refine x_iload_n C dX6_many_0 rfl ?_
  refine x_iconst C (v := nI 0) dX6_many_1 (by decide +kernel) ?_
  refine x_iconst C (v := nI 3) dX6_many_2 (by decide +kernel) ?_
  refine x_callS3i C (okX6_in _ _ _ _) lkX6_60 miX6_in mtX6_in maX6_in ⟨Nat.le_of_ble_eq_true rfl, Nat.le_of_ble_eq_true rfl⟩ (Nat.le_of_ble_eq_true rfl) dX6_many_3 ?_
  rw [hx]
  refine x_if_neB C 12 dX6_many_6 (by decide) (fun c6 => ?_) (fun c6 => ?_)
  · cases c6
  · refine x_bipush C (v := (-2)) dX6_many_9 (by decide +kernel) ?_
    exact x_iret E .int dX6_many_11 rfl rfl rfl rfl
set_option maxHeartbeats 4000000 in
set_option maxRecDepth 100000 in
theorem okX6_many_p0 {P : qPs} {Hs : qHs} {T : qTs} {L : qLs} {S : qSs} {V : qVs} {mr : qmr} {mm : qmm} {ml : qml} {mt : qmt} {s bf sv past : Nat → Nat} {isv : Bool} {pm : Nat} {b : Nat → Nat} (hb : ∀ i, b i < 8) (hsb : Ag s b) (hu : Uq b 7) {q : Nat} (hq : q ≤ 3) (hf : fitsB b = false) : Ok MX6_many [.ref 40, .int (nI q)] (HH P Hs T L S V (s, bf, sv, past, isv, pm) mr mm ml mt) (some (.int (-4))) (HH P Hs T L S V (s, bf, sv, past, isv, pm) mr mm ml mt) := by
  refine ok_of (by decide +kernel) (Nat.zero_le _) (Nat.le_of_ble_eq_true rfl) ?_
  intro X C E
  show Ex X MX6_many 0 [(0, .ref 40), (1, .int (nI q))] [] (HH P Hs T L S V (s, bf, sv, past, isv, pm) mr mm ml mt)
  refine x_iload_n C dX6_many_0 rfl ?_
  refine x_iconst C (v := nI 0) dX6_many_1 (by decide +kernel) ?_
  refine x_iconst C (v := nI 3) dX6_many_2 (by decide +kernel) ?_
  refine x_callS3i C (okX6_in _ _ _ _) lkX6_60 miX6_in mtX6_in maX6_in ⟨Nat.le_of_ble_eq_true rfl, Nat.le_of_ble_eq_true rfl⟩ (Nat.le_of_ble_eq_true rfl) dX6_many_3 ?_
  rw [inB_nI (by omega) (by decide) (by decide), decide_eq_true (by omega)]
  refine x_if_neB C 12 dX6_many_6 (by decide) (fun c6 => ?_) (fun c6 => ?_)
  · refine x_aload_n C dX6_many_12 rfl ?_
    refine x_callV0i C (okX6_fits hb hsb hu) lkX6_132 miX6_fits msX6_fits maX6_fits ⟨Nat.le_of_ble_eq_true rfl, Nat.le_of_ble_eq_true rfl⟩ (Nat.le_of_ble_eq_true rfl) rfl rfl dX6_many_13 ?_
    rw [hf]
    refine x_if_eqB C 27 dX6_many_16 (by decide) (fun c16 => ?_) (fun c16 => ?_)
    · refine x_bipush C (v := (-4)) dX6_many_27 (by decide +kernel) ?_
      exact x_iret E .int dX6_many_29 rfl rfl rfl rfl
    · cases c16
  · cases c6
set_option maxHeartbeats 4000000 in
set_option maxRecDepth 100000 in
theorem okX6_many_p1 {P : qPs} {Hs : qHs} {T : qTs} {L : qLs} {S : qSs} {V : qVs} {ml : qml} {mt : qmt} {s bf sv past : Nat → Nat} {isv : Bool} {pm : Nat} {r1 d1 it lo : Int32} {mv ks tn : Nat → Nat} {mn : Nat} {b : Nat → Nat} (hb : ∀ i, b i < 8) (hsb : Ag s b) (hu : Uq b 7) (hw : wNo b ≤ 12) {q : Nat} (hq : q ≤ 3) (hf : fitsB b = true) : Ok MX6_many [.ref 40, .int (nI q)] (HH P Hs T L S V (s, bf, sv, past, isv, pm) (r1, d1, it, lo) (mv, mn, ks, tn) ml mt) (some (.int (nI (preL (selB b q) 25).length))) (HH P Hs T L S V (s, bf, sv, past, isv, pm) (r1, d1, it, loAll (movP b) b lo 25) (wl mv (preL (selB b q) 25), (preL (selB b q) 25).length, ks, tn) ml mt) := by
  refine ok_of (by decide +kernel) (Nat.zero_le _) (Nat.le_of_ble_eq_true rfl) ?_
  intro X C E
  show Ex X MX6_many 0 [(0, .ref 40), (1, .int (nI q))] [] (HH P Hs T L S V (s, bf, sv, past, isv, pm) (r1, d1, it, lo) (mv, mn, ks, tn) ml mt)
  obtain ⟨k, hl⟩ := fits_loc hf
  refine x_iload_n C dX6_many_0 rfl ?_
  refine x_iconst C (v := nI 0) dX6_many_1 (by decide +kernel) ?_
  refine x_iconst C (v := nI 3) dX6_many_2 (by decide +kernel) ?_
  refine x_callS3i C (okX6_in _ _ _ _) lkX6_60 miX6_in mtX6_in maX6_in ⟨Nat.le_of_ble_eq_true rfl, Nat.le_of_ble_eq_true rfl⟩ (Nat.le_of_ble_eq_true rfl) dX6_many_3 ?_
  rw [inB_nI (by omega) (by decide) (by decide), decide_eq_true (by omega)]
  refine x_if_neB C 12 dX6_many_6 (by decide) (fun c6 => ?_) (fun c6 => ?_)
  · refine x_aload_n C dX6_many_12 rfl ?_
    refine x_callV0i C (okX6_fits hb hsb hu) lkX6_132 miX6_fits msX6_fits maX6_fits ⟨Nat.le_of_ble_eq_true rfl, Nat.le_of_ble_eq_true rfl⟩ (Nat.le_of_ble_eq_true rfl) rfl rfl dX6_many_13 ?_
    rw [hf]
    refine x_if_eqB C 27 dX6_many_16 (by decide) (fun c16 => ?_) (fun c16 => ?_)
    · cases c16
    · refine x_aload_n C dX6_many_19 rfl ?_
      refine x_iload_n C dX6_many_20 rfl ?_
      refine x_callV1i C (okX6_manyOf_b hb hsb hu hw hq hl) lkX6_152 miX6_manyOf msX6_manyOf maX6_manyOf ⟨Nat.le_of_ble_eq_true rfl, Nat.le_of_ble_eq_true rfl⟩ (Nat.le_of_ble_eq_true rfl) rfl rfl dX6_many_21 ?_
      refine x_goto C 29 dX6_many_24 (by decide) ?_
      exact x_iret E .int dX6_many_29 rfl rfl rfl rfl
  · cases c6
theorem max0 {n : Nat} (hn : n < 2147483648) : (if nI 0 < nI n - nI 1 then nI n - nI 1 else nI 0 : Int32) = nI (n - 1) := by
  cases n with
  | zero => decide
  | succ n =>
    rw [show nI (n + 1) - nI 1 = nI n by rw [pk_sub (by omega)]; rfl]
    by_cases h : 0 < n
    · rw [if_pos ((nI_ltI (by decide) (by omega)).mpr h)]; rfl
    · rw [if_neg (fun z => h ((nI_ltI (by decide) (by omega)).mp z)), show n = 0 by omega]
set_option maxHeartbeats 4000000 in
set_option maxRecDepth 100000 in
theorem okX6_duals_p0 {P : qPs} {Hs : qHs} {T : qTs} {L : qLs} {S : qSs} {V : qVs} {mr : qmr} {mm : qmm} {ml : qml} {mt : qmt} {s bf sv past : Nat → Nat} {isv : Bool} {pm : Nat} {b : Nat → Nat} (hb : ∀ i, b i < 8) (hsb : Ag s b) (hu : Uq b 7) (hf : fitsB b = false) : Ok MX6_duals [.ref 40] (HH P Hs T L S V (s, bf, sv, past, isv, pm) mr mm ml mt) (some (.int (-4))) (HH P Hs T L S V (s, bf, sv, past, isv, pm) mr mm ml mt) := by
  refine ok_of (by decide +kernel) (Nat.zero_le _) (Nat.le_of_ble_eq_true rfl) ?_
  intro X C E
  show Ex X MX6_duals 0 [(0, .ref 40)] [] (HH P Hs T L S V (s, bf, sv, past, isv, pm) mr mm ml mt)
  refine x_aload_n C dX6_duals_0 rfl ?_
  refine x_callV0i C (okX6_fits hb hsb hu) lkX6_132 miX6_fits msX6_fits maX6_fits ⟨Nat.le_of_ble_eq_true rfl, Nat.le_of_ble_eq_true rfl⟩ (Nat.le_of_ble_eq_true rfl) rfl rfl dX6_duals_1 ?_
  rw [hf]
  refine x_if_eqB C 21 dX6_duals_4 (by decide) (fun c4 => ?_) (fun c4 => ?_)
  · refine x_bipush C (v := (-4)) dX6_duals_21 (by decide +kernel) ?_
    exact x_iret E .int dX6_duals_23 rfl rfl rfl rfl
  · cases c4
set_option maxHeartbeats 4000000 in
set_option maxRecDepth 100000 in
theorem okX6_duals_p1 {P : qPs} {Hs : qHs} {T : qTs} {L : qLs} {S : qSs} {V : qVs} {ml : qml} {mt : qmt} {s bf sv past : Nat → Nat} {isv : Bool} {pm : Nat} {r1 d1 it lo : Int32} {mv ks tn : Nat → Nat} {mn : Nat} {b : Nat → Nat} (hb : ∀ i, b i < 8) (hsb : Ag s b) (hu : Uq b 7) (hw : wNo b ≤ 12) (hf : fitsB b = true) : Ok MX6_duals [.ref 40] (HH P Hs T L S V (s, bf, sv, past, isv, pm) (r1, d1, it, lo) (mv, mn, ks, tn) ml mt) (some (.int (nI ((preL (selB b 3) 25).length - 1)))) (HH P Hs T L S V (s, bf, sv, past, isv, pm) (r1, d1, it, loAll (movP b) b lo 25) (wl mv (preL (selB b 3) 25), (preL (selB b 3) 25).length, ks, tn) ml mt) := by
  refine ok_of (by decide +kernel) (Nat.zero_le _) (Nat.le_of_ble_eq_true rfl) ?_
  intro X C E
  show Ex X MX6_duals 0 [(0, .ref 40)] [] (HH P Hs T L S V (s, bf, sv, past, isv, pm) (r1, d1, it, lo) (mv, mn, ks, tn) ml mt)
  obtain ⟨k, hl⟩ := fits_loc hf
  have hpl := pre_le (S := selB b 3) (fun f t h => sel_w h) hw
  refine x_aload_n C dX6_duals_0 rfl ?_
  refine x_callV0i C (okX6_fits hb hsb hu) lkX6_132 miX6_fits msX6_fits maX6_fits ⟨Nat.le_of_ble_eq_true rfl, Nat.le_of_ble_eq_true rfl⟩ (Nat.le_of_ble_eq_true rfl) rfl rfl dX6_duals_1 ?_
  rw [hf]
  refine x_if_eqB C 21 dX6_duals_4 (by decide) (fun c4 => ?_) (fun c4 => ?_)
  · cases c4
  · refine x_iconst C (v := nI 0) dX6_duals_7 (by decide +kernel) ?_
    refine x_aload_n C dX6_duals_8 rfl ?_
    refine x_iconst C (v := nI 3) dX6_duals_9 (by decide +kernel) ?_
    refine x_callV1i C (okX6_manyOf_b hb hsb hu hw (by decide) hl) lkX6_152 miX6_manyOf msX6_manyOf maX6_manyOf ⟨Nat.le_of_ble_eq_true rfl, Nat.le_of_ble_eq_true rfl⟩ (Nat.le_of_ble_eq_true rfl) rfl rfl dX6_duals_10 ?_
    refine x_iconst C (v := nI 1) dX6_duals_13 (by decide +kernel) ?_
    refine x_isub C dX6_duals_14 ?_
    refine x_mmax C lkX6_104 ⟨Nat.le_of_ble_eq_true rfl, Nat.le_of_ble_eq_true rfl⟩ (Nat.le_of_ble_eq_true rfl) dX6_duals_15 ?_
    refine x_top (max0 (n := (preL (selB b 3) 25).length) (by omega)) ?_
    refine x_goto C 23 dX6_duals_18 (by decide) ?_
    exact x_iret E .int dX6_duals_23 rfl rfl rfl rfl
set_option maxHeartbeats 4000000 in
set_option maxRecDepth 100000 in
theorem okX6_would_p0 {P : qPs} {Hs : qHs} {T : qTs} {L : qLs} {S : qSs} {V : qVs} {mr : qmr} {mm : qmm} {ml : qml} {mt : qmt} {s bf sv past : Nat → Nat} {isv : Bool} {pm : Nat} (x : Int32) {y : Int32} (hy : isSq y = false) : Ok MX6_would [.ref 40, .int x, .int y] (HH P Hs T L S V (s, bf, sv, past, isv, pm) mr mm ml mt) (some (.int (-1))) (HH P Hs T L S V (s, bf, sv, past, isv, pm) mr mm ml mt) := by
  refine ok_of (by decide +kernel) (Nat.zero_le _) (Nat.le_of_ble_eq_true rfl) ?_
  intro X C E
  show Ex X MX6_would 0 [(0, .ref 40), (1, .int x), (2, .int y)] [] (HH P Hs T L S V (s, bf, sv, past, isv, pm) mr mm ml mt)
  refine x_iload_n C dX6_would_0 rfl ?_
  refine x_callS1i C (okX6_isSquare _ _) lkX6_64 miX6_isSquare mtX6_isSquare maX6_isSquare ⟨Nat.le_of_ble_eq_true rfl, Nat.le_of_ble_eq_true rfl⟩ (Nat.le_of_ble_eq_true rfl) dX6_would_1 ?_
  rw [hy]
  refine x_if_eqB C 28 dX6_would_4 (by decide) (fun c4 => ?_) (fun c4 => ?_)
  · refine x_iconst C (v := (-1)) dX6_would_28 (by decide +kernel) ?_
    exact x_iret E .int dX6_would_29 rfl rfl rfl rfl
  · cases c4
set_option maxHeartbeats 4000000 in
set_option maxRecDepth 100000 in
theorem okX6_would_p1 {P : qPs} {Hs : qHs} {T : qTs} {L : qLs} {S : qSs} {V : qVs} {mr : qmr} {mm : qmm} {ml : qml} {mt : qmt} {s bf sv past : Nat → Nat} {isv : Bool} {pm : Nat} {b : Nat → Nat} (hb : ∀ i, b i < 8) (hsb : Ag s b) (x : Int32) {i : Nat} (hi : i < 25) (hk : b i = 1 ∨ b i = 7) : Ok MX6_would [.ref 40, .int x, .int (nI i)] (HH P Hs T L S V (s, bf, sv, past, isv, pm) mr mm ml mt) (some (.int (-1))) (HH P Hs T L S V (s, bf, sv, past, isv, pm) mr mm ml mt) := by
  refine ok_of (by decide +kernel) (Nat.zero_le _) (Nat.le_of_ble_eq_true rfl) ?_
  intro X C E
  show Ex X MX6_would 0 [(0, .ref 40), (1, .int x), (2, .int (nI i))] [] (HH P Hs T L S V (s, bf, sv, past, isv, pm) mr mm ml mt)
  have hs := hsb.lt hb
  have hbi := hb i
  refine x_iload_n C dX6_would_0 rfl ?_
  refine x_callS1i C (okX6_isSquare _ _) lkX6_64 miX6_isSquare mtX6_isSquare maX6_isSquare ⟨Nat.le_of_ble_eq_true rfl, Nat.le_of_ble_eq_true rfl⟩ (Nat.le_of_ble_eq_true rfl) dX6_would_1 ?_
  rw [isSq_nI (by omega), decide_eq_true hi]
  refine x_if_eqB C 28 dX6_would_4 (by decide) (fun c4 => ?_) (fun c4 => ?_)
  · cases c4
  · refine x_aload_n C dX6_would_7 rfl ?_
    refine x_getfield C qk6 0 (by decide) lfX6_9 dX6_would_8 rfl rfl ?_
    refine x_iload_n C dX6_would_11 rfl ?_
    refine x_iald C dX6_would_12 HM_s (by omega) (by decide) ?_
    refine x_top (congrArg nI (hsb i hi)) ?_
    refine x_iconst C (v := nI 1) dX6_would_13 (by decide +kernel) ?_
    refine x_icmp_eqN C 28 dX6_would_14 (by decide) (by omega) (by omega) (fun c14 => ?_) (fun c14 => ?_)
    · refine x_iconst C (v := (-1)) dX6_would_28 (by decide +kernel) ?_
      exact x_iret E .int dX6_would_29 rfl rfl rfl rfl
    · refine x_aload_n C dX6_would_17 rfl ?_
      refine x_getfield C qk6 0 (by decide) lfX6_9 dX6_would_18 rfl rfl ?_
      refine x_iload_n C dX6_would_21 rfl ?_
      refine x_iald C dX6_would_22 HM_s (by omega) (by decide) ?_
      refine x_top (congrArg nI (hsb i hi)) ?_
      refine x_bipush C (v := nI 7) dX6_would_23 (by decide +kernel) ?_
      refine x_icmp_neN C 30 dX6_would_25 (by decide) (by omega) (by omega) (fun c25 => ?_) (fun c25 => ?_)
      · exact absurd hk (fun z => z.elim c14 c25)
      · refine x_iconst C (v := (-1)) dX6_would_28 (by decide +kernel) ?_
        exact x_iret E .int dX6_would_29 rfl rfl rfl rfl
set_option maxHeartbeats 4000000 in
set_option maxRecDepth 100000 in
theorem okX6_would_p2 {P : qPs} {Hs : qHs} {T : qTs} {L : qLs} {S : qSs} {V : qVs} {mr : qmr} {mm : qmm} {ml : qml} {mt : qmt} {s bf sv past : Nat → Nat} {isv : Bool} {pm : Nat} {b : Nat → Nat} (hb : ∀ i, b i < 8) (hsb : Ag s b) {x : Int32} (hx : inB x (nI 0) (nI 6) = false) {i : Nat} (hi : i < 25) (hk : ¬ (b i = 1 ∨ b i = 7)) : Ok MX6_would [.ref 40, .int x, .int (nI i)] (HH P Hs T L S V (s, bf, sv, past, isv, pm) mr mm ml mt) (some (.int (-2))) (HH P Hs T L S V (s, bf, sv, past, isv, pm) mr mm ml mt) := by
  refine ok_of (by decide +kernel) (Nat.zero_le _) (Nat.le_of_ble_eq_true rfl) ?_
  intro X C E
  show Ex X MX6_would 0 [(0, .ref 40), (1, .int x), (2, .int (nI i))] [] (HH P Hs T L S V (s, bf, sv, past, isv, pm) mr mm ml mt)
  have hs := hsb.lt hb
  have hbi := hb i
  refine x_iload_n C dX6_would_0 rfl ?_
  refine x_callS1i C (okX6_isSquare _ _) lkX6_64 miX6_isSquare mtX6_isSquare maX6_isSquare ⟨Nat.le_of_ble_eq_true rfl, Nat.le_of_ble_eq_true rfl⟩ (Nat.le_of_ble_eq_true rfl) dX6_would_1 ?_
  rw [isSq_nI (by omega), decide_eq_true hi]
  refine x_if_eqB C 28 dX6_would_4 (by decide) (fun c4 => ?_) (fun c4 => ?_)
  · cases c4
  · refine x_aload_n C dX6_would_7 rfl ?_
    refine x_getfield C qk6 0 (by decide) lfX6_9 dX6_would_8 rfl rfl ?_
    refine x_iload_n C dX6_would_11 rfl ?_
    refine x_iald C dX6_would_12 HM_s (by omega) (by decide) ?_
    refine x_top (congrArg nI (hsb i hi)) ?_
    refine x_iconst C (v := nI 1) dX6_would_13 (by decide +kernel) ?_
    refine x_icmp_eqN C 28 dX6_would_14 (by decide) (by omega) (by omega) (fun c14 => ?_) (fun c14 => ?_)
    · exact absurd (Or.inl c14) hk
    · refine x_aload_n C dX6_would_17 rfl ?_
      refine x_getfield C qk6 0 (by decide) lfX6_9 dX6_would_18 rfl rfl ?_
      refine x_iload_n C dX6_would_21 rfl ?_
      refine x_iald C dX6_would_22 HM_s (by omega) (by decide) ?_
      refine x_top (congrArg nI (hsb i hi)) ?_
      refine x_bipush C (v := nI 7) dX6_would_23 (by decide +kernel) ?_
      refine x_icmp_neN C 30 dX6_would_25 (by decide) (by omega) (by omega) (fun c25 => ?_) (fun c25 => ?_)
      · refine x_iload_n C dX6_would_30 rfl ?_
        refine x_iconst C (v := nI 0) dX6_would_31 (by decide +kernel) ?_
        refine x_bipush C (v := nI 6) dX6_would_32 (by decide +kernel) ?_
        refine x_callS3i C (okX6_in _ _ _ _) lkX6_60 miX6_in mtX6_in maX6_in ⟨Nat.le_of_ble_eq_true rfl, Nat.le_of_ble_eq_true rfl⟩ (Nat.le_of_ble_eq_true rfl) dX6_would_34 ?_
        rw [hx]
        refine x_if_eqB C 53 dX6_would_37 (by decide) (fun c37 => ?_) (fun c37 => ?_)
        · refine x_bipush C (v := (-2)) dX6_would_53 (by decide +kernel) ?_
          exact x_iret E .int dX6_would_55 rfl rfl rfl rfl
        · cases c37
      · exact absurd (Or.inr c25) hk
set_option maxHeartbeats 4000000 in
set_option maxRecDepth 100000 in
theorem okX6_would_p3 {P : qPs} {Hs : qHs} {T : qTs} {L : qLs} {S : qSs} {V : qVs} {mr : qmr} {mm : qmm} {ml : qml} {mt : qmt} {s bf sv past : Nat → Nat} {isv : Bool} {pm : Nat} {b : Nat → Nat} (hb : ∀ i, b i < 8) (hsb : Ag s b) (hu1 : Uq b 1) {i : Nat} (hi : i < 25) (hk : ¬ (b i = 1 ∨ b i = 7)) (hl : loc7 b 1 ≠ none) : Ok MX6_would [.ref 40, .int (nI 1), .int (nI i)] (HH P Hs T L S V (s, bf, sv, past, isv, pm) mr mm ml mt) (some (.int (-2))) (HH P Hs T L S V (s, bf, sv, past, isv, pm) mr mm ml mt) := by
  refine ok_of (by decide +kernel) (Nat.zero_le _) (Nat.le_of_ble_eq_true rfl) ?_
  intro X C E
  show Ex X MX6_would 0 [(0, .ref 40), (1, .int (nI 1)), (2, .int (nI i))] [] (HH P Hs T L S V (s, bf, sv, past, isv, pm) mr mm ml mt)
  have hs := hsb.lt hb
  have hbi := hb i
  refine x_iload_n C dX6_would_0 rfl ?_
  refine x_callS1i C (okX6_isSquare _ _) lkX6_64 miX6_isSquare mtX6_isSquare maX6_isSquare ⟨Nat.le_of_ble_eq_true rfl, Nat.le_of_ble_eq_true rfl⟩ (Nat.le_of_ble_eq_true rfl) dX6_would_1 ?_
  rw [isSq_nI (by omega), decide_eq_true hi]
  refine x_if_eqB C 28 dX6_would_4 (by decide) (fun c4 => ?_) (fun c4 => ?_)
  · cases c4
  · refine x_aload_n C dX6_would_7 rfl ?_
    refine x_getfield C qk6 0 (by decide) lfX6_9 dX6_would_8 rfl rfl ?_
    refine x_iload_n C dX6_would_11 rfl ?_
    refine x_iald C dX6_would_12 HM_s (by omega) (by decide) ?_
    refine x_top (congrArg nI (hsb i hi)) ?_
    refine x_iconst C (v := nI 1) dX6_would_13 (by decide +kernel) ?_
    refine x_icmp_eqN C 28 dX6_would_14 (by decide) (by omega) (by omega) (fun c14 => ?_) (fun c14 => ?_)
    · exact absurd (Or.inl c14) hk
    · refine x_aload_n C dX6_would_17 rfl ?_
      refine x_getfield C qk6 0 (by decide) lfX6_9 dX6_would_18 rfl rfl ?_
      refine x_iload_n C dX6_would_21 rfl ?_
      refine x_iald C dX6_would_22 HM_s (by omega) (by decide) ?_
      refine x_top (congrArg nI (hsb i hi)) ?_
      refine x_bipush C (v := nI 7) dX6_would_23 (by decide +kernel) ?_
      refine x_icmp_neN C 30 dX6_would_25 (by decide) (by omega) (by omega) (fun c25 => ?_) (fun c25 => ?_)
      · refine x_iload_n C dX6_would_30 rfl ?_
        refine x_iconst C (v := nI 0) dX6_would_31 (by decide +kernel) ?_
        refine x_bipush C (v := nI 6) dX6_would_32 (by decide +kernel) ?_
        refine x_callS3i C (okX6_in _ _ _ _) lkX6_60 miX6_in mtX6_in maX6_in ⟨Nat.le_of_ble_eq_true rfl, Nat.le_of_ble_eq_true rfl⟩ (Nat.le_of_ble_eq_true rfl) dX6_would_34 ?_
        rw [inB_nI (by decide) (by decide) (by decide), decide_eq_true (by omega)]
        refine x_if_eqB C 53 dX6_would_37 (by decide) (fun c37 => ?_) (fun c37 => ?_)
        · cases c37
        · refine x_iload_n C dX6_would_40 rfl ?_
          refine x_iconst C (v := nI 1) dX6_would_41 (by decide +kernel) ?_
          refine x_icmp_neN C 56 dX6_would_42 (by decide) (by omega) (by omega) (fun c42 => ?_) (fun c42 => ?_)
          · exact absurd rfl c42
          · refine x_aload_n C dX6_would_45 rfl ?_
            refine x_iconst C (v := nI 1) dX6_would_46 (by decide +kernel) ?_
            refine x_callV1i C (okX6_where hs 1 (by decide)) lkX6_72 miX6_where msX6_where maX6_where ⟨Nat.le_of_ble_eq_true rfl, Nat.le_of_ble_eq_true rfl⟩ (Nat.le_of_ble_eq_true rfl) rfl rfl dX6_would_47 ?_
            rw [whS hsb hu1]
            refine x_if_lt C 56 dX6_would_50 (by decide) (fun c50 => ?_) (fun c50 => ?_)
            · exact absurd (sqI_neg7.mp c50) hl
            · refine x_bipush C (v := (-2)) dX6_would_53 (by decide +kernel) ?_
              exact x_iret E .int dX6_would_55 rfl rfl rfl rfl
      · exact absurd (Or.inr c25) hk
theorem up_back {s : Nat → Nat} (i q : Nat) : up (up s i q) i (s i) = s := by
  funext x
  unfold up
  by_cases e : x = i
  · subst e; rw [if_pos rfl]
  · rw [if_neg e, if_neg e]
set_option maxHeartbeats 4000000 in
set_option maxRecDepth 100000 in
theorem okX6_would_p4 {P : qPs} {Hs : qHs} {T : qTs} {L : qLs} {S : qSs} {V : qVs} {ml : qml} {mt : qmt} {s bf sv past : Nat → Nat} {isv : Bool} {pm : Nat} {r1 d1 it lo : Int32} {mv ks tn : Nat → Nat} {mn : Nat} {b : Nat → Nat} (hb : ∀ i, b i < 8) (hsb : Ag s b) (hu1 : Uq b 1) {q i : Nat} (hq : q ≤ 6) (hi : i < 25) (hk : ¬ (b i = 1 ∨ b i = 7)) (hl : q = 1 → loc7 b 1 = none) (hu2 : Uq (up b i q) 7) (hf : fitsB (up b i q) = false) : Ok MX6_would [.ref 40, .int (nI q), .int (nI i)] (HH P Hs T L S V (s, bf, sv, past, isv, pm) (r1, d1, it, lo) (mv, mn, ks, tn) ml mt) (some (.int (-4))) (HH P Hs T L S V (s, bf, sv, past, isv, pm) (r1, d1, it, lo) (mv, mn, ks, tn) ml mt) := by
  refine ok_of (by decide +kernel) (Nat.zero_le _) (Nat.le_of_ble_eq_true rfl) ?_
  intro X C E
  show Ex X MX6_would 0 [(0, .ref 40), (1, .int (nI q)), (2, .int (nI i))] [] (HH P Hs T L S V (s, bf, sv, past, isv, pm) (r1, d1, it, lo) (mv, mn, ks, tn) ml mt)
  have hs := hsb.lt hb
  have hbi := hb i
  have hb2 := up_lt hb (k := i) (v := q) (by omega)
  have hsb2 := hsb.up i q
  refine x_iload_n C dX6_would_0 rfl ?_
  refine x_callS1i C (okX6_isSquare _ _) lkX6_64 miX6_isSquare mtX6_isSquare maX6_isSquare ⟨Nat.le_of_ble_eq_true rfl, Nat.le_of_ble_eq_true rfl⟩ (Nat.le_of_ble_eq_true rfl) dX6_would_1 ?_
  rw [isSq_nI (by omega), decide_eq_true hi]
  refine x_if_eqB C 28 dX6_would_4 (by decide) (fun c4 => ?_) (fun c4 => ?_)
  · cases c4
  · refine x_aload_n C dX6_would_7 rfl ?_
    refine x_getfield C qk6 0 (by decide) lfX6_9 dX6_would_8 rfl rfl ?_
    refine x_iload_n C dX6_would_11 rfl ?_
    refine x_iald C dX6_would_12 HM_s (by omega) (by decide) ?_
    refine x_top (congrArg nI (hsb i hi)) ?_
    refine x_iconst C (v := nI 1) dX6_would_13 (by decide +kernel) ?_
    refine x_icmp_eqN C 28 dX6_would_14 (by decide) (by omega) (by omega) (fun c14 => ?_) (fun c14 => ?_)
    · exact absurd (Or.inl c14) hk
    · refine x_aload_n C dX6_would_17 rfl ?_
      refine x_getfield C qk6 0 (by decide) lfX6_9 dX6_would_18 rfl rfl ?_
      refine x_iload_n C dX6_would_21 rfl ?_
      refine x_iald C dX6_would_22 HM_s (by omega) (by decide) ?_
      refine x_top (congrArg nI (hsb i hi)) ?_
      refine x_bipush C (v := nI 7) dX6_would_23 (by decide +kernel) ?_
      refine x_icmp_neN C 30 dX6_would_25 (by decide) (by omega) (by omega) (fun c25 => ?_) (fun c25 => ?_)
      · refine x_iload_n C dX6_would_30 rfl ?_
        refine x_iconst C (v := nI 0) dX6_would_31 (by decide +kernel) ?_
        refine x_bipush C (v := nI 6) dX6_would_32 (by decide +kernel) ?_
        refine x_callS3i C (okX6_in _ _ _ _) lkX6_60 miX6_in mtX6_in maX6_in ⟨Nat.le_of_ble_eq_true rfl, Nat.le_of_ble_eq_true rfl⟩ (Nat.le_of_ble_eq_true rfl) dX6_would_34 ?_
        rw [inB_nI (by omega) (by decide) (by decide), decide_eq_true (by omega)]
        refine x_if_eqB C 53 dX6_would_37 (by decide) (fun c37 => ?_) (fun c37 => ?_)
        · cases c37
        · refine x_iload_n C dX6_would_40 rfl ?_
          refine x_iconst C (v := nI 1) dX6_would_41 (by decide +kernel) ?_
          refine x_icmp_neN C 56 dX6_would_42 (by decide) (by omega) (by omega) (fun c42 => ?_) (fun c42 => ?_)
          · refine x_aload_n C dX6_would_56 rfl ?_
            refine x_getfield C qk6 0 (by decide) lfX6_9 dX6_would_57 rfl rfl ?_
            refine x_iload_n C dX6_would_60 rfl ?_
            refine x_iald C dX6_would_61 HM_s (by omega) (by decide) ?_
            refine x_top (show nb s i = nI (s i) from rfl) ?_
            refine x_istore_n C dX6_would_62 (by decide) [(3, _), (0, _), (1, _), (2, _)] rfl ?_
            refine x_aload_n C dX6_would_63 rfl ?_
            refine x_getfield C qk6 0 (by decide) lfX6_9 dX6_would_64 rfl rfl ?_
            refine x_iload_n C dX6_would_67 rfl ?_
            refine x_iload_n C dX6_would_68 rfl ?_
            refine x_istb C dX6_would_69 HM_s (by omega) (by decide) ?_
            refine x_heap (h2 := HH P Hs T L S V (up s i q, bf, sv, past, isv, pm) (r1, d1, it, lo) (mv, mn, ks, tn) ml mt) (by rfl) ?_
            refine x_aload_n C dX6_would_70 rfl ?_
            refine x_callV0i C (okX6_fits (b := up b i q) hb2 hsb2 hu2) lkX6_132 miX6_fits msX6_fits maX6_fits ⟨Nat.le_of_ble_eq_true rfl, Nat.le_of_ble_eq_true rfl⟩ (Nat.le_of_ble_eq_true rfl) rfl rfl dX6_would_71 ?_
            refine x_if_eqB C 85 dX6_would_74 (by decide) (fun c74 => ?_) (fun c74 => ?_)
            · refine x_bipush C (v := (-4)) dX6_would_85 (by decide +kernel) ?_
              refine x_istore C dX6_would_87 (by decide) [(4, _), (3, _), (0, _), (1, _), (2, _)] rfl ?_
              refine x_aload_n C dX6_would_89 rfl ?_
              refine x_getfield C qk6 0 (by decide) lfX6_9 dX6_would_90 rfl rfl ?_
              refine x_iload_n C dX6_would_93 rfl ?_
              refine x_iload_n C dX6_would_94 rfl ?_
              refine x_istb C dX6_would_95 HM_s (by omega) (by decide) ?_
              refine x_heap (h2 := HH P Hs T L S V (s, bf, sv, past, isv, pm) (r1, d1, it, lo) (mv, mn, ks, tn) ml mt) (by rw [HS_s, up_back]) ?_
              refine x_iload C dX6_would_96 rfl ?_
              exact x_iret E .int dX6_would_98 rfl rfl rfl rfl
            · rw [hf] at c74; cases c74
          · refine x_aload_n C dX6_would_45 rfl ?_
            refine x_iconst C (v := nI 1) dX6_would_46 (by decide +kernel) ?_
            refine x_callV1i C (okX6_where hs 1 (by decide)) lkX6_72 miX6_where msX6_where maX6_where ⟨Nat.le_of_ble_eq_true rfl, Nat.le_of_ble_eq_true rfl⟩ (Nat.le_of_ble_eq_true rfl) rfl rfl dX6_would_47 ?_
            rw [whS hsb hu1]
            refine x_if_lt C 56 dX6_would_50 (by decide) (fun c50 => ?_) (fun c50 => ?_)
            · refine x_aload_n C dX6_would_56 rfl ?_
              refine x_getfield C qk6 0 (by decide) lfX6_9 dX6_would_57 rfl rfl ?_
              refine x_iload_n C dX6_would_60 rfl ?_
              refine x_iald C dX6_would_61 HM_s (by omega) (by decide) ?_
              refine x_top (show nb s i = nI (s i) from rfl) ?_
              refine x_istore_n C dX6_would_62 (by decide) [(3, _), (0, _), (1, _), (2, _)] rfl ?_
              refine x_aload_n C dX6_would_63 rfl ?_
              refine x_getfield C qk6 0 (by decide) lfX6_9 dX6_would_64 rfl rfl ?_
              refine x_iload_n C dX6_would_67 rfl ?_
              refine x_iload_n C dX6_would_68 rfl ?_
              refine x_istb C dX6_would_69 HM_s (by omega) (by decide) ?_
              refine x_heap (h2 := HH P Hs T L S V (up s i q, bf, sv, past, isv, pm) (r1, d1, it, lo) (mv, mn, ks, tn) ml mt) (by rfl) ?_
              refine x_aload_n C dX6_would_70 rfl ?_
              refine x_callV0i C (okX6_fits (b := up b i q) hb2 hsb2 hu2) lkX6_132 miX6_fits msX6_fits maX6_fits ⟨Nat.le_of_ble_eq_true rfl, Nat.le_of_ble_eq_true rfl⟩ (Nat.le_of_ble_eq_true rfl) rfl rfl dX6_would_71 ?_
              refine x_if_eqB C 85 dX6_would_74 (by decide) (fun c74 => ?_) (fun c74 => ?_)
              · refine x_bipush C (v := (-4)) dX6_would_85 (by decide +kernel) ?_
                refine x_istore C dX6_would_87 (by decide) [(4, _), (3, _), (0, _), (1, _), (2, _)] rfl ?_
                refine x_aload_n C dX6_would_89 rfl ?_
                refine x_getfield C qk6 0 (by decide) lfX6_9 dX6_would_90 rfl rfl ?_
                refine x_iload_n C dX6_would_93 rfl ?_
                refine x_iload_n C dX6_would_94 rfl ?_
                refine x_istb C dX6_would_95 HM_s (by omega) (by decide) ?_
                refine x_heap (h2 := HH P Hs T L S V (s, bf, sv, past, isv, pm) (r1, d1, it, lo) (mv, mn, ks, tn) ml mt) (by rw [HS_s, up_back]) ?_
                refine x_iload C dX6_would_96 rfl ?_
                exact x_iret E .int dX6_would_98 rfl rfl rfl rfl
              · rw [hf] at c74; cases c74
            · exact absurd (sqI_neg7.mpr (hl c42)) c50
      · exact absurd (Or.inr c25) hk
set_option maxHeartbeats 4000000 in
set_option maxRecDepth 100000 in
theorem okX6_would_p5 {P : qPs} {Hs : qHs} {T : qTs} {L : qLs} {S : qSs} {V : qVs} {ml : qml} {mt : qmt} {s bf sv past : Nat → Nat} {isv : Bool} {pm : Nat} {r1 d1 it lo : Int32} {mv ks tn : Nat → Nat} {mn : Nat} {b : Nat → Nat} (hb : ∀ i, b i < 8) (hsb : Ag s b) (hu1 : Uq b 1) {q i : Nat} (hq : q ≤ 6) (hi : i < 25) (hk : ¬ (b i = 1 ∨ b i = 7)) (hl : q = 1 → loc7 b 1 = none) (hu2 : Uq (up b i q) 7) (hf : fitsB (up b i q) = true) (hw2 : wNo (up b i q) ≤ 12) : Ok MX6_would [.ref 40, .int (nI q), .int (nI i)] (HH P Hs T L S V (s, bf, sv, past, isv, pm) (r1, d1, it, lo) (mv, mn, ks, tn) ml mt) (some (.int (nI (preL (selB (up b i q) 3) 25).length))) (HH P Hs T L S V (s, bf, sv, past, isv, pm) (r1, d1, it, loAll (movP (up b i q)) (up b i q) lo 25) (wl mv (preL (selB (up b i q) 3) 25), (preL (selB (up b i q) 3) 25).length, ks, tn) ml mt) := by
  refine ok_of (by decide +kernel) (Nat.zero_le _) (Nat.le_of_ble_eq_true rfl) ?_
  intro X C E
  show Ex X MX6_would 0 [(0, .ref 40), (1, .int (nI q)), (2, .int (nI i))] [] (HH P Hs T L S V (s, bf, sv, past, isv, pm) (r1, d1, it, lo) (mv, mn, ks, tn) ml mt)
  have hs := hsb.lt hb
  have hbi := hb i
  have hb2 := up_lt hb (k := i) (v := q) (by omega)
  have hsb2 := hsb.up i q
  obtain ⟨k, hl2⟩ := fits_loc hf
  refine x_iload_n C dX6_would_0 rfl ?_
  refine x_callS1i C (okX6_isSquare _ _) lkX6_64 miX6_isSquare mtX6_isSquare maX6_isSquare ⟨Nat.le_of_ble_eq_true rfl, Nat.le_of_ble_eq_true rfl⟩ (Nat.le_of_ble_eq_true rfl) dX6_would_1 ?_
  rw [isSq_nI (by omega), decide_eq_true hi]
  refine x_if_eqB C 28 dX6_would_4 (by decide) (fun c4 => ?_) (fun c4 => ?_)
  · cases c4
  · refine x_aload_n C dX6_would_7 rfl ?_
    refine x_getfield C qk6 0 (by decide) lfX6_9 dX6_would_8 rfl rfl ?_
    refine x_iload_n C dX6_would_11 rfl ?_
    refine x_iald C dX6_would_12 HM_s (by omega) (by decide) ?_
    refine x_top (congrArg nI (hsb i hi)) ?_
    refine x_iconst C (v := nI 1) dX6_would_13 (by decide +kernel) ?_
    refine x_icmp_eqN C 28 dX6_would_14 (by decide) (by omega) (by omega) (fun c14 => ?_) (fun c14 => ?_)
    · exact absurd (Or.inl c14) hk
    · refine x_aload_n C dX6_would_17 rfl ?_
      refine x_getfield C qk6 0 (by decide) lfX6_9 dX6_would_18 rfl rfl ?_
      refine x_iload_n C dX6_would_21 rfl ?_
      refine x_iald C dX6_would_22 HM_s (by omega) (by decide) ?_
      refine x_top (congrArg nI (hsb i hi)) ?_
      refine x_bipush C (v := nI 7) dX6_would_23 (by decide +kernel) ?_
      refine x_icmp_neN C 30 dX6_would_25 (by decide) (by omega) (by omega) (fun c25 => ?_) (fun c25 => ?_)
      · refine x_iload_n C dX6_would_30 rfl ?_
        refine x_iconst C (v := nI 0) dX6_would_31 (by decide +kernel) ?_
        refine x_bipush C (v := nI 6) dX6_would_32 (by decide +kernel) ?_
        refine x_callS3i C (okX6_in _ _ _ _) lkX6_60 miX6_in mtX6_in maX6_in ⟨Nat.le_of_ble_eq_true rfl, Nat.le_of_ble_eq_true rfl⟩ (Nat.le_of_ble_eq_true rfl) dX6_would_34 ?_
        rw [inB_nI (by omega) (by decide) (by decide), decide_eq_true (by omega)]
        refine x_if_eqB C 53 dX6_would_37 (by decide) (fun c37 => ?_) (fun c37 => ?_)
        · cases c37
        · refine x_iload_n C dX6_would_40 rfl ?_
          refine x_iconst C (v := nI 1) dX6_would_41 (by decide +kernel) ?_
          refine x_icmp_neN C 56 dX6_would_42 (by decide) (by omega) (by omega) (fun c42 => ?_) (fun c42 => ?_)
          · refine x_aload_n C dX6_would_56 rfl ?_
            refine x_getfield C qk6 0 (by decide) lfX6_9 dX6_would_57 rfl rfl ?_
            refine x_iload_n C dX6_would_60 rfl ?_
            refine x_iald C dX6_would_61 HM_s (by omega) (by decide) ?_
            refine x_top (show nb s i = nI (s i) from rfl) ?_
            refine x_istore_n C dX6_would_62 (by decide) [(3, _), (0, _), (1, _), (2, _)] rfl ?_
            refine x_aload_n C dX6_would_63 rfl ?_
            refine x_getfield C qk6 0 (by decide) lfX6_9 dX6_would_64 rfl rfl ?_
            refine x_iload_n C dX6_would_67 rfl ?_
            refine x_iload_n C dX6_would_68 rfl ?_
            refine x_istb C dX6_would_69 HM_s (by omega) (by decide) ?_
            refine x_heap (h2 := HH P Hs T L S V (up s i q, bf, sv, past, isv, pm) (r1, d1, it, lo) (mv, mn, ks, tn) ml mt) (by rfl) ?_
            refine x_aload_n C dX6_would_70 rfl ?_
            refine x_callV0i C (okX6_fits (b := up b i q) hb2 hsb2 hu2) lkX6_132 miX6_fits msX6_fits maX6_fits ⟨Nat.le_of_ble_eq_true rfl, Nat.le_of_ble_eq_true rfl⟩ (Nat.le_of_ble_eq_true rfl) rfl rfl dX6_would_71 ?_
            refine x_if_eqB C 85 dX6_would_74 (by decide) (fun c74 => ?_) (fun c74 => ?_)
            · rw [hf] at c74; cases c74
            · refine x_aload_n C dX6_would_77 rfl ?_
              refine x_iconst C (v := nI 3) dX6_would_78 (by decide +kernel) ?_
              refine x_callV1i C (okX6_manyOf_b (b := up b i q) hb2 hsb2 hu2 hw2 (by decide) hl2) lkX6_152 miX6_manyOf msX6_manyOf maX6_manyOf ⟨Nat.le_of_ble_eq_true rfl, Nat.le_of_ble_eq_true rfl⟩ (Nat.le_of_ble_eq_true rfl) rfl rfl dX6_would_79 ?_
              refine x_goto C 87 dX6_would_82 (by decide) ?_
              refine x_istore C dX6_would_87 (by decide) [(4, _), (3, _), (0, _), (1, _), (2, _)] rfl ?_
              refine x_aload_n C dX6_would_89 rfl ?_
              refine x_getfield C qk6 0 (by decide) lfX6_9 dX6_would_90 rfl rfl ?_
              refine x_iload_n C dX6_would_93 rfl ?_
              refine x_iload_n C dX6_would_94 rfl ?_
              refine x_istb C dX6_would_95 HM_s (by omega) (by decide) ?_
              refine x_heap (h2 := HH P Hs T L S V (s, bf, sv, past, isv, pm) (r1, d1, it, loAll (movP (up b i q)) (up b i q) lo 25) (wl mv (preL (selB (up b i q) 3) 25), (preL (selB (up b i q) 3) 25).length, ks, tn) ml mt) (by rw [HS_s, up_back]) ?_
              refine x_iload C dX6_would_96 rfl ?_
              exact x_iret E .int dX6_would_98 rfl rfl rfl rfl
          · refine x_aload_n C dX6_would_45 rfl ?_
            refine x_iconst C (v := nI 1) dX6_would_46 (by decide +kernel) ?_
            refine x_callV1i C (okX6_where hs 1 (by decide)) lkX6_72 miX6_where msX6_where maX6_where ⟨Nat.le_of_ble_eq_true rfl, Nat.le_of_ble_eq_true rfl⟩ (Nat.le_of_ble_eq_true rfl) rfl rfl dX6_would_47 ?_
            rw [whS hsb hu1]
            refine x_if_lt C 56 dX6_would_50 (by decide) (fun c50 => ?_) (fun c50 => ?_)
            · refine x_aload_n C dX6_would_56 rfl ?_
              refine x_getfield C qk6 0 (by decide) lfX6_9 dX6_would_57 rfl rfl ?_
              refine x_iload_n C dX6_would_60 rfl ?_
              refine x_iald C dX6_would_61 HM_s (by omega) (by decide) ?_
              refine x_top (show nb s i = nI (s i) from rfl) ?_
              refine x_istore_n C dX6_would_62 (by decide) [(3, _), (0, _), (1, _), (2, _)] rfl ?_
              refine x_aload_n C dX6_would_63 rfl ?_
              refine x_getfield C qk6 0 (by decide) lfX6_9 dX6_would_64 rfl rfl ?_
              refine x_iload_n C dX6_would_67 rfl ?_
              refine x_iload_n C dX6_would_68 rfl ?_
              refine x_istb C dX6_would_69 HM_s (by omega) (by decide) ?_
              refine x_heap (h2 := HH P Hs T L S V (up s i q, bf, sv, past, isv, pm) (r1, d1, it, lo) (mv, mn, ks, tn) ml mt) (by rfl) ?_
              refine x_aload_n C dX6_would_70 rfl ?_
              refine x_callV0i C (okX6_fits (b := up b i q) hb2 hsb2 hu2) lkX6_132 miX6_fits msX6_fits maX6_fits ⟨Nat.le_of_ble_eq_true rfl, Nat.le_of_ble_eq_true rfl⟩ (Nat.le_of_ble_eq_true rfl) rfl rfl dX6_would_71 ?_
              refine x_if_eqB C 85 dX6_would_74 (by decide) (fun c74 => ?_) (fun c74 => ?_)
              · rw [hf] at c74; cases c74
              · refine x_aload_n C dX6_would_77 rfl ?_
                refine x_iconst C (v := nI 3) dX6_would_78 (by decide +kernel) ?_
                refine x_callV1i C (okX6_manyOf_b (b := up b i q) hb2 hsb2 hu2 hw2 (by decide) hl2) lkX6_152 miX6_manyOf msX6_manyOf maX6_manyOf ⟨Nat.le_of_ble_eq_true rfl, Nat.le_of_ble_eq_true rfl⟩ (Nat.le_of_ble_eq_true rfl) rfl rfl dX6_would_79 ?_
                refine x_goto C 87 dX6_would_82 (by decide) ?_
                refine x_istore C dX6_would_87 (by decide) [(4, _), (3, _), (0, _), (1, _), (2, _)] rfl ?_
                refine x_aload_n C dX6_would_89 rfl ?_
                refine x_getfield C qk6 0 (by decide) lfX6_9 dX6_would_90 rfl rfl ?_
                refine x_iload_n C dX6_would_93 rfl ?_
                refine x_iload_n C dX6_would_94 rfl ?_
                refine x_istb C dX6_would_95 HM_s (by omega) (by decide) ?_
                refine x_heap (h2 := HH P Hs T L S V (s, bf, sv, past, isv, pm) (r1, d1, it, loAll (movP (up b i q)) (up b i q) lo 25) (wl mv (preL (selB (up b i q) 3) 25), (preL (selB (up b i q) 3) 25).length, ks, tn) ml mt) (by rw [HS_s, up_back]) ?_
                refine x_iload C dX6_would_96 rfl ?_
                exact x_iret E .int dX6_would_98 rfl rfl rfl rfl
            · exact absurd (sqI_neg7.mpr (hl c42)) c50
      · exact absurd (Or.inr c25) hk
