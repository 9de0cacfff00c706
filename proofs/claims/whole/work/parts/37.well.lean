/-! the class's calls: isWell, refusal, account, undo, save, restore, lines -/

theorem cnt25_lt (p : Nat → Bool) : cnt p 25 < 2147483648 := Nat.lt_of_le_of_lt (cnt_le p 25) (by decide)
theorem lin_lt (b : Nat → Nat) (i : Nat) : lineN b i < 2147483648 := Nat.lt_of_le_of_lt (lineN_le b i) (by decide)
def tot (u : Nat → Nat) : Nat := u 3 + u 2 + u 1 + u 0
set_option maxHeartbeats 4000000 in
set_option maxRecDepth 100000 in
theorem okX5_kindsAreAllMoves {a b c d : qP} {Hs : qHs} {L : qLs} {S : qSs} {V : qVs} {ms : qms} {mr : qmr} {mm : qmm} {ml : qml} {mt : qmt} {Tm Tk : Nat → Int32} {ta mc : Nat → Nat} (ha : Bd a.1) (htot : tot (tlO a.1 25 (zt ta 4)) = sumc (movP a.1) 25) : Ok MX5_kindsAreAllMoves [.ref 0] (HH (a, b, c, d) Hs (Tm, Tk, ta, mc) L S V ms mr mm ml mt) (some (.int (qb true))) (HH (a, b, c, d) Hs (tmF a.1 Tm, Tk, (tlO a.1 25 (zt ta 4)), mc) L S V ms mr mm ml mt) := by
  refine ok_of (by decide +kernel) (Nat.zero_le _) (Nat.le_of_ble_eq_true rfl) ?_
  intro X C E
  show Ex X MX5_kindsAreAllMoves 0 [(0, .ref 0)] [] (HH (a, b, c, d) Hs (Tm, Tk, ta, mc) L S V ms mr mm ml mt)
  have hsm := sumc_le (movP a.1) 25
  obtain ⟨u, hu⟩ : ∃ u, u = tlO a.1 25 (zt ta 4) := ⟨_, rfl⟩
  rw [← hu] at htot E
  obtain ⟨sm, hs⟩ : ∃ sm, sm = sumc (movP a.1) 25 := ⟨_, rfl⟩
  rw [← hs] at htot hsm
  unfold tot at htot
  refine x_aload_n C dX5_kindsAreAllMoves_0 rfl ?_
  refine x_callV0v C (okX5_fillTally ha.1) lkX5_158 miX5_fillTally msX5_fillTally maX5_fillTally ⟨Nat.le_of_ble_eq_true rfl, Nat.le_of_ble_eq_true rfl⟩ (Nat.le_of_ble_eq_true rfl) rfl rfl dX5_kindsAreAllMoves_1 ?_
  refine x_heap (h2 := HH (a, b, c, d) Hs (Tm, Tk, u, mc) L S V ms mr mm ml mt) (by rw [hu]) ?_
  refine x_aload_n C dX5_kindsAreAllMoves_4 rfl ?_
  refine x_getfield C qk5 6 (by decide) lfX5_35 dX5_kindsAreAllMoves_5 rfl rfl ?_
  refine x_aload_n C dX5_kindsAreAllMoves_8 rfl ?_
  refine x_getfield C qk5 0 (by decide) lfX5_12 dX5_kindsAreAllMoves_9 rfl rfl ?_
  refine x_callV1v C (okX2_fillWithMoves TabA_m PosA_now ha.1 (by decide) (by decide)) lkX5_130 miX2_fillWithMoves msX2_fillWithMoves maX2_fillWithMoves ⟨Nat.le_of_ble_eq_true rfl, Nat.le_of_ble_eq_true rfl⟩ (Nat.le_of_ble_eq_true rfl) rfl rfl dX5_kindsAreAllMoves_12 ?_
  refine x_heap (h2 := HH (a, b, c, d) Hs (tmF a.1 Tm, Tk, u, mc) L S V ms mr mm ml mt) (by rfl) ?_
  refine x_aload_n C dX5_kindsAreAllMoves_15 rfl ?_
  refine x_getfield C qk5 8 (by decide) lfX5_42 dX5_kindsAreAllMoves_16 rfl rfl ?_
  refine x_iconst C (v := nI 3) dX5_kindsAreAllMoves_19 (by decide +kernel) ?_
  refine x_iald C dX5_kindsAreAllMoves_20 rfl (by omega) (by decide) ?_
  refine x_aload_n C dX5_kindsAreAllMoves_21 rfl ?_
  refine x_getfield C qk5 8 (by decide) lfX5_42 dX5_kindsAreAllMoves_22 rfl rfl ?_
  refine x_iconst C (v := nI 2) dX5_kindsAreAllMoves_25 (by decide +kernel) ?_
  refine x_iald C dX5_kindsAreAllMoves_26 rfl (by omega) (by decide) ?_
  refine x_iaddN C dX5_kindsAreAllMoves_27 ?_
  refine x_aload_n C dX5_kindsAreAllMoves_28 rfl ?_
  refine x_getfield C qk5 8 (by decide) lfX5_42 dX5_kindsAreAllMoves_29 rfl rfl ?_
  refine x_iconst C (v := nI 1) dX5_kindsAreAllMoves_32 (by decide +kernel) ?_
  refine x_iald C dX5_kindsAreAllMoves_33 rfl (by omega) (by decide) ?_
  refine x_iaddN C dX5_kindsAreAllMoves_34 ?_
  refine x_aload_n C dX5_kindsAreAllMoves_35 rfl ?_
  refine x_getfield C qk5 8 (by decide) lfX5_42 dX5_kindsAreAllMoves_36 rfl rfl ?_
  refine x_iconst C (v := nI 0) dX5_kindsAreAllMoves_39 (by decide +kernel) ?_
  refine x_iald C dX5_kindsAreAllMoves_40 rfl (by omega) (by decide) ?_
  refine x_iaddN C dX5_kindsAreAllMoves_41 ?_
  refine x_aload_n C dX5_kindsAreAllMoves_42 rfl ?_
  refine x_getfield C qk5 6 (by decide) lfX5_35 dX5_kindsAreAllMoves_43 rfl rfl ?_
  refine x_callV0i C (okX2_count TabA_m (movP a.1) (tmF_at a.1 Tm)) lkX5_161 miX2_count msX2_count maX2_count ⟨Nat.le_of_ble_eq_true rfl, Nat.le_of_ble_eq_true rfl⟩ (Nat.le_of_ble_eq_true rfl) rfl rfl dX5_kindsAreAllMoves_46 ?_
  rw [← hs]
  dsimp only
  refine x_icmp_neN C 56 dX5_kindsAreAllMoves_49 (by decide) (by omega) (by omega) (fun c49 => ?_) (fun c49 => ?_)
  · exact absurd htot c49
  · refine x_iconst C (v := nI 1) dX5_kindsAreAllMoves_52 (by decide +kernel) ?_
    refine x_goto C 57 dX5_kindsAreAllMoves_53 (by decide) ?_
    exact x_iret E .boolean dX5_kindsAreAllMoves_57 rfl rfl rfl rfl
theorem keyR_in {b : Nat → Nat} {f t : Nat} : ∀ n, keyR b f n t = true → movP b f t = true ∧ isKey b f t = true ∧ t < n
  | 0, h => by simp [keyR] at h
  | n + 1, h => by
    simp only [keyR] at h
    split at h
    · rename_i hc
      simp only [Bool.or_eq_true, one, decide_eq_true_eq] at h
      rcases h with h | h
      · obtain ⟨h1, h2, h3⟩ := keyR_in n h
        exact ⟨h1, h2, by omega⟩
      · subst h
        exact ⟨hc.1, hc.2, by omega⟩
    · obtain ⟨h1, h2, h3⟩ := keyR_in n h
      exact ⟨h1, h2, by omega⟩
theorem keyP_nob {b : Nat → Nat} {f t : Nat} (h : keyP b f t = true) : nob (escP (aft b f t)) = true := by
  have h2 := (keyR_in 25 h).2.1
  unfold isKey at h2
  rw [Bool.and_eq_true] at h2
  exact h2.2
set_option maxHeartbeats 4000000 in
set_option maxRecDepth 100000 in
theorem okX5_keysLeaveNoFlight {a b c d : qP} {Hs : qHs} {L : qLs} {S : qSs} {V : qVs} {ms : qms} {mr : qmr} {mm : qmm} {ml : qml} {mt : qmt} {Tm Tk : Nat → Int32} {ta mc : Nat → Nat} (ha : Bd a.1) : Ok MX5_keysLeaveNoFlight [.ref 0] (HH (a, b, c, d) Hs (Tm, Tk, ta, mc) L S V ms mr mm ml mt) (some (.int (qb true))) (HH (a, b, c, d) Hs (Tm, tkF a.1 Tk, ta, mc) L S V ms mr mm ml mt) := by
  refine ok_of (by decide +kernel) (Nat.zero_le _) (Nat.le_of_ble_eq_true rfl) ?_
  intro X C E
  show Ex X MX5_keysLeaveNoFlight 0 [(0, .ref 0)] [] (HH (a, b, c, d) Hs (Tm, Tk, ta, mc) L S V ms mr mm ml mt)
  have L1 : ∀ n f : Nat, f + n = 25 → Ex X MX5_keysLeaveNoFlight 13 [(0, .ref 0), (1, .int (nI f))] [] (HH (a, b, c, d) Hs (Tm, tkF a.1 Tk, ta, mc) L S V ms mr mm ml mt) := by
    intro n
    induction n with
    | zero =>
      intro f hf
      refine x_iload_n C dX5_keysLeaveNoFlight_13 rfl ?_
      refine x_bipush C (v := nI 25) dX5_keysLeaveNoFlight_14 (by decide +kernel) ?_
      refine x_icmp_geN C 72 dX5_keysLeaveNoFlight_16 (by decide) (by omega) (by omega) (fun c16 => ?_) (fun c16 => ?_)
      · refine x_iconst C (v := nI 1) dX5_keysLeaveNoFlight_72 (by decide +kernel) ?_
        exact x_iret E .boolean dX5_keysLeaveNoFlight_73 rfl rfl rfl rfl
      · exact absurd c16 (by omega)
    | succ n ih =>
      intro f hf
      have hfl : f < 25 := by omega
      have L2 : ∀ j t : Nat, t + j = 25 → Ex X MX5_keysLeaveNoFlight 21 [(0, .ref 0), (1, .int (nI f)), (2, .int (nI t))] [] (HH (a, b, c, d) Hs (Tm, tkF a.1 Tk, ta, mc) L S V ms mr mm ml mt) := by
        intro j
        induction j with
        | zero =>
          intro t ht
          refine x_iload_n C dX5_keysLeaveNoFlight_21 rfl ?_
          refine x_bipush C (v := nI 25) dX5_keysLeaveNoFlight_22 (by decide +kernel) ?_
          refine x_icmp_geN C 66 dX5_keysLeaveNoFlight_24 (by decide) (by omega) (by omega) (fun c24 => ?_) (fun c24 => ?_)
          · refine x_iinc C _ dX5_keysLeaveNoFlight_66 rfl (q_inc _) (by decide) [(1, _), (0, _), (2, _)] rfl ?_
            refine x_goto C 13 dX5_keysLeaveNoFlight_69 (by decide) ?_
            exact x_sub [1, 0] (ih (f + 1) (by omega)) rfl
          · exact absurd c24 (by omega)
        | succ j ih2 =>
          intro t ht
          have htl : t < 25 := by omega
          refine x_iload_n C dX5_keysLeaveNoFlight_21 rfl ?_
          refine x_bipush C (v := nI 25) dX5_keysLeaveNoFlight_22 (by decide +kernel) ?_
          refine x_icmp_geN C 66 dX5_keysLeaveNoFlight_24 (by decide) (by omega) (by omega) (fun c24 => ?_) (fun c24 => ?_)
          · exact absurd c24 (by omega)
          · refine x_aload_n C dX5_keysLeaveNoFlight_27 rfl ?_
            refine x_getfield C qk5 7 (by decide) lfX5_39 dX5_keysLeaveNoFlight_28 rfl rfl ?_
            refine x_getfield C qk2 0 (by decide) lfX5_275 dX5_keysLeaveNoFlight_31 rfl rfl ?_
            refine x_iload_n C dX5_keysLeaveNoFlight_34 rfl ?_
            refine x_iald C dX5_keysLeaveNoFlight_35 rfl (by omega) (by decide) ?_
            refine x_top (tkF_at a.1 Tk f hfl) ?_
            refine x_iload_n C dX5_keysLeaveNoFlight_36 rfl ?_
            refine x_callS2i C (okX5_hasSquare _ htl _) lkX5_278 miX5_hasSquare mtX5_hasSquare maX5_hasSquare ⟨Nat.le_of_ble_eq_true rfl, Nat.le_of_ble_eq_true rfl⟩ (Nat.le_of_ble_eq_true rfl) dX5_keysLeaveNoFlight_37 ?_
            refine x_if_eqB C 60 dX5_keysLeaveNoFlight_40 (by decide) (fun c40 => ?_) (fun c40 => ?_)
            · refine x_iinc C _ dX5_keysLeaveNoFlight_60 rfl (q_inc _) (by decide) [(2, _), (0, _), (1, _)] rfl ?_
              refine x_goto C 21 dX5_keysLeaveNoFlight_63 (by decide) ?_
              exact x_sub [1, 2, 0] (ih2 (t + 1) (by omega)) rfl
            · refine x_aload_n C dX5_keysLeaveNoFlight_43 rfl ?_
              refine x_getfield C qk5 0 (by decide) lfX5_12 dX5_keysLeaveNoFlight_44 rfl rfl ?_
              refine x_iload_n C dX5_keysLeaveNoFlight_47 rfl ?_
              refine x_iload_n C dX5_keysLeaveNoFlight_48 rfl ?_
              refine x_callV2i C (okX3_outlookBehind PosA_now ha.1 hfl htl) lkX5_152 miX3_outlookBehind msX3_outlookBehind maX3_outlookBehind ⟨Nat.le_of_ble_eq_true rfl, Nat.le_of_ble_eq_true rfl⟩ (Nat.le_of_ble_eq_true rfl) rfl rfl dX5_keysLeaveNoFlight_49 ?_
              refine x_callS1i C (okX5_squaresIn _ _ _) lkX5_142 miX5_squaresIn mtX5_squaresIn maX5_squaresIn ⟨Nat.le_of_ble_eq_true rfl, Nat.le_of_ble_eq_true rfl⟩ (Nat.le_of_ble_eq_true rfl) dX5_keysLeaveNoFlight_52 ?_
              refine x_if_eq C 60 dX5_keysLeaveNoFlight_55 (by decide) (fun c55 => ?_) (fun c55 => ?_)
              · refine x_iinc C _ dX5_keysLeaveNoFlight_60 rfl (q_inc _) (by decide) [(2, _), (0, _), (1, _)] rfl ?_
                refine x_goto C 21 dX5_keysLeaveNoFlight_63 (by decide) ?_
                exact x_sub [1, 2, 0] (ih2 (t + 1) (by omega)) rfl
              · exact absurd (mask_z.mpr (keyP_nob c40)) c55
      refine x_iload_n C dX5_keysLeaveNoFlight_13 rfl ?_
      refine x_bipush C (v := nI 25) dX5_keysLeaveNoFlight_14 (by decide +kernel) ?_
      refine x_icmp_geN C 72 dX5_keysLeaveNoFlight_16 (by decide) (by omega) (by omega) (fun c16 => ?_) (fun c16 => ?_)
      · exact absurd c16 (by omega)
      · refine x_iconst C (v := nI 0) dX5_keysLeaveNoFlight_19 (by decide +kernel) ?_
        refine x_istore_n C dX5_keysLeaveNoFlight_20 (by decide) [(2, _), (0, _), (1, _)] rfl ?_
        exact x_sub [1, 2, 0] (L2 25 0 (by omega)) rfl
  refine x_aload_n C dX5_keysLeaveNoFlight_0 rfl ?_
  refine x_getfield C qk5 7 (by decide) lfX5_39 dX5_keysLeaveNoFlight_1 rfl rfl ?_
  refine x_aload_n C dX5_keysLeaveNoFlight_4 rfl ?_
  refine x_getfield C qk5 0 (by decide) lfX5_12 dX5_keysLeaveNoFlight_5 rfl rfl ?_
  refine x_callV1v C (okX2_fillWithKeys TabA_k PosA_now ha.1 (by decide) (by decide)) lkX5_124 miX2_fillWithKeys msX2_fillWithKeys maX2_fillWithKeys ⟨Nat.le_of_ble_eq_true rfl, Nat.le_of_ble_eq_true rfl⟩ (Nat.le_of_ble_eq_true rfl) rfl rfl dX5_keysLeaveNoFlight_8 ?_
  refine x_heap (h2 := HH (a, b, c, d) Hs (Tm, tkF a.1 Tk, ta, mc) L S V ms mr mm ml mt) (by rfl) ?_
  refine x_iconst C (v := nI 0) dX5_keysLeaveNoFlight_11 (by decide +kernel) ?_
  refine x_istore_n C dX5_keysLeaveNoFlight_12 (by decide) [(1, _), (0, _)] rfl ?_
  exact x_sub [1, 0] (L1 25 0 (by omega)) rfl
set_option maxHeartbeats 4000000 in
set_option maxRecDepth 100000 in
theorem okX5_isWell_p0 {a b c d : qP} {Hs : qHs} {L : qLs} {S : qSs} {V : qVs} {ms : qms} {mr : qmr} {mm : qmm} {ml : qml} {mt : qmt} {Tm Tk : Nat → Int32} {ta mc : Nat → Nat} (ha : Bd a.1) (hatt : ∀ i, i < 25 → cnt (attR a.1 i) 25 = lineN a.1 i) (hf0 : fitsB a.1 = false) : Ok MX5_isWell [.ref 0] (HH (a, b, c, d) Hs (Tm, Tk, ta, mc) L S V ms mr mm ml mt) (some (.int (nI 1))) (HH (a, b, c, d) Hs (Tm, Tk, ta, mc) L S V ms mr mm ml mt) := by
  refine ok_of (by decide +kernel) (Nat.zero_le _) (Nat.le_of_ble_eq_true rfl) ?_
  intro X C E
  show Ex X MX5_isWell 0 [(0, .ref 0)] [] (HH (a, b, c, d) Hs (Tm, Tk, ta, mc) L S V ms mr mm ml mt)
  have LP : ∀ n i : Nat, i + n = 25 → Ex X MX5_isWell 2 [(0, .ref 0), (1, .int (nI i))] [] (HH (a, b, c, d) Hs (Tm, Tk, ta, mc) L S V ms mr mm ml mt) := by
    intro n
    induction n with
    | zero =>
      intro i hin 
      have e : i = 25 := by omega
      subst e
      refine x_iload_n C dX5_isWell_2 rfl ?_
      refine x_bipush C (v := nI 25) dX5_isWell_3 (by decide +kernel) ?_
      refine x_icmp_geN C 35 dX5_isWell_5 (by decide) (by omega) (by omega) (fun c5 => ?_) (fun c5 => ?_)
      · refine x_aload_n C dX5_isWell_35 rfl ?_
        refine x_getfield C qk5 0 (by decide) lfX5_12 dX5_isWell_36 rfl rfl ?_
        refine x_callV0i C (okX3_fits PosA_now ha.1) lkX5_117 miX3_fits msX3_fits maX3_fits ⟨Nat.le_of_ble_eq_true rfl, Nat.le_of_ble_eq_true rfl⟩ (Nat.le_of_ble_eq_true rfl) rfl rfl dX5_isWell_39 ?_
        rw [hf0]
        refine x_if_neB C 47 dX5_isWell_42 (by decide) (fun c42 => ?_) (fun c42 => ?_)
        · cases c42
        · refine x_iconst C (v := nI 1) dX5_isWell_45 (by decide +kernel) ?_
          exact x_iret E .int dX5_isWell_46 rfl rfl rfl rfl
      · exact absurd c5 (by omega)
    | succ n ih =>
      intro i hin 
      have hlt : i < 25 := by omega
      refine x_iload_n C dX5_isWell_2 rfl ?_
      refine x_bipush C (v := nI 25) dX5_isWell_3 (by decide +kernel) ?_
      refine x_icmp_geN C 35 dX5_isWell_5 (by decide) (by omega) (by omega) (fun c5 => ?_) (fun c5 => ?_)
      · exact absurd c5 (by omega)
      · refine x_aload_n C dX5_isWell_8 rfl ?_
        refine x_getfield C qk5 0 (by decide) lfX5_12 dX5_isWell_9 rfl rfl ?_
        refine x_iload_n C dX5_isWell_12 rfl ?_
        refine x_callV1i C (okX3_countManByMan PosA_now ha.1 hlt) lkX5_102 miX3_countManByMan msX3_countManByMan maX3_countManByMan ⟨Nat.le_of_ble_eq_true rfl, Nat.le_of_ble_eq_true rfl⟩ (Nat.le_of_ble_eq_true rfl) rfl rfl dX5_isWell_13 ?_
        refine x_aload_n C dX5_isWell_16 rfl ?_
        refine x_getfield C qk5 0 (by decide) lfX5_12 dX5_isWell_17 rfl rfl ?_
        refine x_iload_n C dX5_isWell_20 rfl ?_
        refine x_callV1i C (okX3_countLineByLine PosA_now ha.1 hlt) lkX5_105 miX3_countLineByLine msX3_countLineByLine maX3_countLineByLine ⟨Nat.le_of_ble_eq_true rfl, Nat.le_of_ble_eq_true rfl⟩ (Nat.le_of_ble_eq_true rfl) rfl rfl dX5_isWell_21 ?_
        refine x_icmp_eqN C 29 dX5_isWell_24 (by decide) (by first | with_reducible exact cnt25_lt _ | with_reducible exact lin_lt _ _) (by first | with_reducible exact cnt25_lt _ | with_reducible exact lin_lt _ _) (fun c24 => ?_) (fun c24 => ?_)
        · refine x_iinc C _ dX5_isWell_29 rfl (q_inc _) (by decide) [(1, _), (0, _)] rfl ?_
          refine x_goto C 2 dX5_isWell_32 (by decide) ?_
          exact x_sub [1, 0] (ih (i + 1) (by omega)) rfl
        · exact absurd (hatt i hlt) c24
  refine x_iconst C (v := nI 0) dX5_isWell_0 (by decide +kernel) ?_
  refine x_istore_n C dX5_isWell_1 (by decide) [(1, _), (0, _)] rfl ?_
  exact x_sub [1, 0] (LP 25 0 (by omega)) rfl
set_option maxHeartbeats 4000000 in
set_option maxRecDepth 100000 in
theorem okX5_isWell_p1 {a b c d : qP} {Hs : qHs} {L : qLs} {S : qSs} {V : qVs} {ms : qms} {mr : qmr} {mm : qmm} {ml : qml} {mt : qmt} {Tm Tk : Nat → Int32} {ta mc : Nat → Nat} (ha : Bd a.1) (hatt : ∀ i, i < 25 → cnt (attR a.1 i) 25 = lineN a.1 i) (hf1 : fitsB a.1 = true) (htot : tot (tlO a.1 25 (zt ta 4)) = sumc (movP a.1) 25) : Ok MX5_isWell [.ref 0] (HH (a, b, c, d) Hs (Tm, Tk, ta, mc) L S V ms mr mm ml mt) (some (.int (nI 1))) (HH (a, b, c, d) Hs (tmF a.1 Tm, tkF a.1 Tk, (tlO a.1 25 (zt ta 4)), mc) L S V ms mr mm ml mt) := by
  refine ok_of (by decide +kernel) (Nat.zero_le _) (Nat.le_of_ble_eq_true rfl) ?_
  intro X C E
  show Ex X MX5_isWell 0 [(0, .ref 0)] [] (HH (a, b, c, d) Hs (Tm, Tk, ta, mc) L S V ms mr mm ml mt)
  have LP : ∀ n i : Nat, i + n = 25 → Ex X MX5_isWell 2 [(0, .ref 0), (1, .int (nI i))] [] (HH (a, b, c, d) Hs (Tm, Tk, ta, mc) L S V ms mr mm ml mt) := by
    intro n
    induction n with
    | zero =>
      intro i hin 
      have e : i = 25 := by omega
      subst e
      refine x_iload_n C dX5_isWell_2 rfl ?_
      refine x_bipush C (v := nI 25) dX5_isWell_3 (by decide +kernel) ?_
      refine x_icmp_geN C 35 dX5_isWell_5 (by decide) (by omega) (by omega) (fun c5 => ?_) (fun c5 => ?_)
      · refine x_aload_n C dX5_isWell_35 rfl ?_
        refine x_getfield C qk5 0 (by decide) lfX5_12 dX5_isWell_36 rfl rfl ?_
        refine x_callV0i C (okX3_fits PosA_now ha.1) lkX5_117 miX3_fits msX3_fits maX3_fits ⟨Nat.le_of_ble_eq_true rfl, Nat.le_of_ble_eq_true rfl⟩ (Nat.le_of_ble_eq_true rfl) rfl rfl dX5_isWell_39 ?_
        rw [hf1]
        refine x_if_neB C 47 dX5_isWell_42 (by decide) (fun c42 => ?_) (fun c42 => ?_)
        · refine x_aload_n C dX5_isWell_47 rfl ?_
          refine x_callV0i C (okX5_kindsAreAllMoves ha htot) lkX5_253 miX5_kindsAreAllMoves msX5_kindsAreAllMoves maX5_kindsAreAllMoves ⟨Nat.le_of_ble_eq_true rfl, Nat.le_of_ble_eq_true rfl⟩ (Nat.le_of_ble_eq_true rfl) rfl rfl dX5_isWell_48 ?_
          refine x_if_eqB C 65 dX5_isWell_51 (by decide) (fun c51 => ?_) (fun c51 => ?_)
          · cases c51
          · refine x_aload_n C dX5_isWell_54 rfl ?_
            refine x_callV0i C (okX5_keysLeaveNoFlight ha) lkX5_256 miX5_keysLeaveNoFlight msX5_keysLeaveNoFlight maX5_keysLeaveNoFlight ⟨Nat.le_of_ble_eq_true rfl, Nat.le_of_ble_eq_true rfl⟩ (Nat.le_of_ble_eq_true rfl) rfl rfl dX5_isWell_55 ?_
            refine x_if_eqB C 65 dX5_isWell_58 (by decide) (fun c58 => ?_) (fun c58 => ?_)
            · cases c58
            · refine x_iconst C (v := nI 1) dX5_isWell_61 (by decide +kernel) ?_
              refine x_goto C 66 dX5_isWell_62 (by decide) ?_
              exact x_iret E .int dX5_isWell_66 rfl rfl rfl rfl
        · cases c42
      · exact absurd c5 (by omega)
    | succ n ih =>
      intro i hin 
      have hlt : i < 25 := by omega
      refine x_iload_n C dX5_isWell_2 rfl ?_
      refine x_bipush C (v := nI 25) dX5_isWell_3 (by decide +kernel) ?_
      refine x_icmp_geN C 35 dX5_isWell_5 (by decide) (by omega) (by omega) (fun c5 => ?_) (fun c5 => ?_)
      · exact absurd c5 (by omega)
      · refine x_aload_n C dX5_isWell_8 rfl ?_
        refine x_getfield C qk5 0 (by decide) lfX5_12 dX5_isWell_9 rfl rfl ?_
        refine x_iload_n C dX5_isWell_12 rfl ?_
        refine x_callV1i C (okX3_countManByMan PosA_now ha.1 hlt) lkX5_102 miX3_countManByMan msX3_countManByMan maX3_countManByMan ⟨Nat.le_of_ble_eq_true rfl, Nat.le_of_ble_eq_true rfl⟩ (Nat.le_of_ble_eq_true rfl) rfl rfl dX5_isWell_13 ?_
        refine x_aload_n C dX5_isWell_16 rfl ?_
        refine x_getfield C qk5 0 (by decide) lfX5_12 dX5_isWell_17 rfl rfl ?_
        refine x_iload_n C dX5_isWell_20 rfl ?_
        refine x_callV1i C (okX3_countLineByLine PosA_now ha.1 hlt) lkX5_105 miX3_countLineByLine msX3_countLineByLine maX3_countLineByLine ⟨Nat.le_of_ble_eq_true rfl, Nat.le_of_ble_eq_true rfl⟩ (Nat.le_of_ble_eq_true rfl) rfl rfl dX5_isWell_21 ?_
        refine x_icmp_eqN C 29 dX5_isWell_24 (by decide) (by first | with_reducible exact cnt25_lt _ | with_reducible exact lin_lt _ _) (by first | with_reducible exact cnt25_lt _ | with_reducible exact lin_lt _ _) (fun c24 => ?_) (fun c24 => ?_)
        · refine x_iinc C _ dX5_isWell_29 rfl (q_inc _) (by decide) [(1, _), (0, _)] rfl ?_
          refine x_goto C 2 dX5_isWell_32 (by decide) ?_
          exact x_sub [1, 0] (ih (i + 1) (by omega)) rfl
        · exact absurd (hatt i hlt) c24
  refine x_iconst C (v := nI 0) dX5_isWell_0 (by decide +kernel) ?_
  refine x_istore_n C dX5_isWell_1 (by decide) [(1, _), (0, _)] rfl ?_
  exact x_sub [1, 0] (LP 25 0 (by omega)) rfl
