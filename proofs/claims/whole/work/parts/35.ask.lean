/-! the class's calls that ask -/

set_option maxHeartbeats 4000000 in
set_option maxRecDepth 100000 in
theorem okX5_at_out {a b c d : qP} {Hs : qHs} {T : qTs} {L : qLs} {S : qSs} {V : qVs} {ms : qms} {mr : qmr} {mm : qmm} {ml : qml} {mt : qmt} {x : Int32} (hx : isSq x = false) : Ok MX5_at [.ref 0, .int x] (HH (a, b, c, d) Hs T L S V ms mr mm ml mt) (some (.int (-1))) (HH (a, b, c, d) Hs T L S V ms mr mm ml mt) := by
  refine ok_of (by decide +kernel) (Nat.zero_le _) (Nat.le_of_ble_eq_true rfl) ?_
  intro X C E
  show Ex X MX5_at 0 [(0, .ref 0), (1, .int x)] [] (HH (a, b, c, d) Hs T L S V ms mr mm ml mt)
  refine x_iload_n C dX5_at_0 rfl ?_
  refine x_callS1i C (okX5_isSquare _ _) lkX5_95 miX5_isSquare mtX5_isSquare maX5_isSquare ⟨Nat.le_of_ble_eq_true rfl, Nat.le_of_ble_eq_true rfl⟩ (Nat.le_of_ble_eq_true rfl) dX5_at_1 ?_
  rw [hx]
  refine x_if_eqB C 18 dX5_at_4 (by decide) (fun c4 => ?_) (fun c4 => ?_)
  · refine x_iconst C (v := (-1)) dX5_at_18 (by decide +kernel) ?_
    exact x_iret E .int dX5_at_19 rfl rfl rfl rfl
  · cases c4
set_option maxHeartbeats 4000000 in
set_option maxRecDepth 100000 in
theorem okX5_at_in {a b c d : qP} {Hs : qHs} {T : qTs} {L : qLs} {S : qSs} {V : qVs} {ms : qms} {mr : qmr} {mm : qmm} {ml : qml} {mt : qmt} {i : Nat} (hi : i < 25) (ha : Bd a.1) : Ok MX5_at [.ref 0, .int (nI i)] (HH (a, b, c, d) Hs T L S V ms mr mm ml mt) (some (.int (nI (a.1 i)))) (HH (a, b, c, d) Hs T L S V ms mr mm ml mt) := by
  refine ok_of (by decide +kernel) (Nat.zero_le _) (Nat.le_of_ble_eq_true rfl) ?_
  intro X C E
  show Ex X MX5_at 0 [(0, .ref 0), (1, .int (nI i))] [] (HH (a, b, c, d) Hs T L S V ms mr mm ml mt)
  refine x_iload_n C dX5_at_0 rfl ?_
  refine x_callS1i C (okX5_isSquare _ _) lkX5_95 miX5_isSquare mtX5_isSquare maX5_isSquare ⟨Nat.le_of_ble_eq_true rfl, Nat.le_of_ble_eq_true rfl⟩ (Nat.le_of_ble_eq_true rfl) dX5_at_1 ?_
  rw [isSq_nI (by omega), decide_eq_true hi]
  refine x_if_eqB C 18 dX5_at_4 (by decide) (fun c4 => ?_) (fun c4 => ?_)
  · cases c4
  · refine x_aload_n C dX5_at_7 rfl ?_
    refine x_getfield C qk5 0 (by decide) lfX5_12 dX5_at_8 rfl rfl ?_
    refine x_iload_n C dX5_at_11 rfl ?_
    refine x_callV1i C (okX3_manOn PosA_now hi) lkX5_99 miX3_manOn msX3_manOn maX3_manOn ⟨Nat.le_of_ble_eq_true rfl, Nat.le_of_ble_eq_true rfl⟩ (Nat.le_of_ble_eq_true rfl) rfl rfl dX5_at_12 ?_
    refine x_goto C 19 dX5_at_15 (by decide) ?_
    exact x_iret E .int dX5_at_19 rfl rfl rfl rfl
set_option maxHeartbeats 4000000 in
set_option maxRecDepth 100000 in
theorem okX5_attackers_out {a b c d : qP} {Hs : qHs} {T : qTs} {L : qLs} {S : qSs} {V : qVs} {ms : qms} {mr : qmr} {mm : qmm} {ml : qml} {mt : qmt} {x : Int32} (hx : isSq x = false) : Ok MX5_attackers [.ref 0, .int x] (HH (a, b, c, d) Hs T L S V ms mr mm ml mt) (some (.int (-1))) (HH (a, b, c, d) Hs T L S V ms mr mm ml mt) := by
  refine ok_of (by decide +kernel) (Nat.zero_le _) (Nat.le_of_ble_eq_true rfl) ?_
  intro X C E
  show Ex X MX5_attackers 0 [(0, .ref 0), (1, .int x)] [] (HH (a, b, c, d) Hs T L S V ms mr mm ml mt)
  refine x_iload_n C dX5_attackers_0 rfl ?_
  refine x_callS1i C (okX5_isSquare _ _) lkX5_95 miX5_isSquare mtX5_isSquare maX5_isSquare ⟨Nat.le_of_ble_eq_true rfl, Nat.le_of_ble_eq_true rfl⟩ (Nat.le_of_ble_eq_true rfl) dX5_attackers_1 ?_
  rw [hx]
  refine x_if_eqB C 18 dX5_attackers_4 (by decide) (fun c4 => ?_) (fun c4 => ?_)
  · refine x_iconst C (v := (-1)) dX5_attackers_18 (by decide +kernel) ?_
    exact x_iret E .int dX5_attackers_19 rfl rfl rfl rfl
  · cases c4
set_option maxHeartbeats 4000000 in
set_option maxRecDepth 100000 in
theorem okX5_attackers_in {a b c d : qP} {Hs : qHs} {T : qTs} {L : qLs} {S : qSs} {V : qVs} {ms : qms} {mr : qmr} {mm : qmm} {ml : qml} {mt : qmt} {i : Nat} (hi : i < 25) (ha : Bd a.1) : Ok MX5_attackers [.ref 0, .int (nI i)] (HH (a, b, c, d) Hs T L S V ms mr mm ml mt) (some (.int (nI (cnt (attR a.1 i) 25)))) (HH (a, b, c, d) Hs T L S V ms mr mm ml mt) := by
  refine ok_of (by decide +kernel) (Nat.zero_le _) (Nat.le_of_ble_eq_true rfl) ?_
  intro X C E
  show Ex X MX5_attackers 0 [(0, .ref 0), (1, .int (nI i))] [] (HH (a, b, c, d) Hs T L S V ms mr mm ml mt)
  refine x_iload_n C dX5_attackers_0 rfl ?_
  refine x_callS1i C (okX5_isSquare _ _) lkX5_95 miX5_isSquare mtX5_isSquare maX5_isSquare ⟨Nat.le_of_ble_eq_true rfl, Nat.le_of_ble_eq_true rfl⟩ (Nat.le_of_ble_eq_true rfl) dX5_attackers_1 ?_
  rw [isSq_nI (by omega), decide_eq_true hi]
  refine x_if_eqB C 18 dX5_attackers_4 (by decide) (fun c4 => ?_) (fun c4 => ?_)
  · cases c4
  · refine x_aload_n C dX5_attackers_7 rfl ?_
    refine x_getfield C qk5 0 (by decide) lfX5_12 dX5_attackers_8 rfl rfl ?_
    refine x_iload_n C dX5_attackers_11 rfl ?_
    refine x_callV1i C (okX3_countManByMan PosA_now ha.1 hi) lkX5_102 miX3_countManByMan msX3_countManByMan maX3_countManByMan ⟨Nat.le_of_ble_eq_true rfl, Nat.le_of_ble_eq_true rfl⟩ (Nat.le_of_ble_eq_true rfl) rfl rfl dX5_attackers_12 ?_
    refine x_goto C 19 dX5_attackers_15 (by decide) ?_
    exact x_iret E .int dX5_attackers_19 rfl rfl rfl rfl
set_option maxHeartbeats 4000000 in
set_option maxRecDepth 100000 in
theorem okX5_attackersAgain_out {a b c d : qP} {Hs : qHs} {T : qTs} {L : qLs} {S : qSs} {V : qVs} {ms : qms} {mr : qmr} {mm : qmm} {ml : qml} {mt : qmt} {x : Int32} (hx : isSq x = false) : Ok MX5_attackersAgain [.ref 0, .int x] (HH (a, b, c, d) Hs T L S V ms mr mm ml mt) (some (.int (-1))) (HH (a, b, c, d) Hs T L S V ms mr mm ml mt) := by
  refine ok_of (by decide +kernel) (Nat.zero_le _) (Nat.le_of_ble_eq_true rfl) ?_
  intro X C E
  show Ex X MX5_attackersAgain 0 [(0, .ref 0), (1, .int x)] [] (HH (a, b, c, d) Hs T L S V ms mr mm ml mt)
  refine x_iload_n C dX5_attackersAgain_0 rfl ?_
  refine x_callS1i C (okX5_isSquare _ _) lkX5_95 miX5_isSquare mtX5_isSquare maX5_isSquare ⟨Nat.le_of_ble_eq_true rfl, Nat.le_of_ble_eq_true rfl⟩ (Nat.le_of_ble_eq_true rfl) dX5_attackersAgain_1 ?_
  rw [hx]
  refine x_if_eqB C 18 dX5_attackersAgain_4 (by decide) (fun c4 => ?_) (fun c4 => ?_)
  · refine x_iconst C (v := (-1)) dX5_attackersAgain_18 (by decide +kernel) ?_
    exact x_iret E .int dX5_attackersAgain_19 rfl rfl rfl rfl
  · cases c4
set_option maxHeartbeats 4000000 in
set_option maxRecDepth 100000 in
theorem okX5_attackersAgain_in {a b c d : qP} {Hs : qHs} {T : qTs} {L : qLs} {S : qSs} {V : qVs} {ms : qms} {mr : qmr} {mm : qmm} {ml : qml} {mt : qmt} {i : Nat} (hi : i < 25) (ha : Bd a.1) : Ok MX5_attackersAgain [.ref 0, .int (nI i)] (HH (a, b, c, d) Hs T L S V ms mr mm ml mt) (some (.int (nI (lineN a.1 i)))) (HH (a, b, c, d) Hs T L S V ms mr mm ml mt) := by
  refine ok_of (by decide +kernel) (Nat.zero_le _) (Nat.le_of_ble_eq_true rfl) ?_
  intro X C E
  show Ex X MX5_attackersAgain 0 [(0, .ref 0), (1, .int (nI i))] [] (HH (a, b, c, d) Hs T L S V ms mr mm ml mt)
  refine x_iload_n C dX5_attackersAgain_0 rfl ?_
  refine x_callS1i C (okX5_isSquare _ _) lkX5_95 miX5_isSquare mtX5_isSquare maX5_isSquare ⟨Nat.le_of_ble_eq_true rfl, Nat.le_of_ble_eq_true rfl⟩ (Nat.le_of_ble_eq_true rfl) dX5_attackersAgain_1 ?_
  rw [isSq_nI (by omega), decide_eq_true hi]
  refine x_if_eqB C 18 dX5_attackersAgain_4 (by decide) (fun c4 => ?_) (fun c4 => ?_)
  · cases c4
  · refine x_aload_n C dX5_attackersAgain_7 rfl ?_
    refine x_getfield C qk5 0 (by decide) lfX5_12 dX5_attackersAgain_8 rfl rfl ?_
    refine x_iload_n C dX5_attackersAgain_11 rfl ?_
    refine x_callV1i C (okX3_countLineByLine PosA_now ha.1 hi) lkX5_105 miX3_countLineByLine msX3_countLineByLine maX3_countLineByLine ⟨Nat.le_of_ble_eq_true rfl, Nat.le_of_ble_eq_true rfl⟩ (Nat.le_of_ble_eq_true rfl) rfl rfl dX5_attackersAgain_12 ?_
    refine x_goto C 19 dX5_attackersAgain_15 (by decide) ?_
    exact x_iret E .int dX5_attackersAgain_19 rfl rfl rfl rfl
set_option maxHeartbeats 4000000 in
set_option maxRecDepth 100000 in
theorem okX5_manOf_p0 {a b c d : qP} {Hs : qHs} {T : qTs} {L : qLs} {S : qSs} {V : qVs} {ms : qms} {mr : qmr} {mm : qmm} {ml : qml} {mt : qmt} {x y : Int32} (hx : isSq x = false) : Ok MX5_manOf [.ref 0, .int x, .int y] (HH (a, b, c, d) Hs T L S V ms mr mm ml mt) (some (.int (-1))) (HH (a, b, c, d) Hs T L S V ms mr mm ml mt) := by
  refine ok_of (by decide +kernel) (Nat.zero_le _) (Nat.le_of_ble_eq_true rfl) ?_
  intro X C E
  show Ex X MX5_manOf 0 [(0, .ref 0), (1, .int x), (2, .int y)] [] (HH (a, b, c, d) Hs T L S V ms mr mm ml mt)
  refine x_iload_n C dX5_manOf_0 rfl ?_
  refine x_callS1i C (okX5_isSquare _ _) lkX5_95 miX5_isSquare mtX5_isSquare maX5_isSquare ⟨Nat.le_of_ble_eq_true rfl, Nat.le_of_ble_eq_true rfl⟩ (Nat.le_of_ble_eq_true rfl) dX5_manOf_1 ?_
  rw [hx]
  refine x_if_neB C 9 dX5_manOf_4 (by decide) (fun c4 => ?_) (fun c4 => ?_)
  · cases c4
  · refine x_iconst C (v := (-1)) dX5_manOf_7 (by decide +kernel) ?_
    exact x_iret E .int dX5_manOf_8 rfl rfl rfl rfl
set_option maxHeartbeats 4000000 in
set_option maxRecDepth 100000 in
theorem okX5_manOf_p1 {a b c d : qP} {Hs : qHs} {T : qTs} {L : qLs} {S : qSs} {V : qVs} {ms : qms} {mr : qmr} {mm : qmm} {ml : qml} {mt : qmt} {i : Nat} (hi : i < 25) {y : Int32} (hy : y < 0 ∨ nI 3 < y) : Ok MX5_manOf [.ref 0, .int (nI i), .int y] (HH (a, b, c, d) Hs T L S V ms mr mm ml mt) (some (.int (-2))) (HH (a, b, c, d) Hs T L S V ms mr mm ml mt) := by
  refine ok_of (by decide +kernel) (Nat.zero_le _) (Nat.le_of_ble_eq_true rfl) ?_
  intro X C E
  show Ex X MX5_manOf 0 [(0, .ref 0), (1, .int (nI i)), (2, .int y)] [] (HH (a, b, c, d) Hs T L S V ms mr mm ml mt)
  refine x_iload_n C dX5_manOf_0 rfl ?_
  refine x_callS1i C (okX5_isSquare _ _) lkX5_95 miX5_isSquare mtX5_isSquare maX5_isSquare ⟨Nat.le_of_ble_eq_true rfl, Nat.le_of_ble_eq_true rfl⟩ (Nat.le_of_ble_eq_true rfl) dX5_manOf_1 ?_
  rw [isSq_nI (by omega), decide_eq_true hi]
  refine x_if_neB C 9 dX5_manOf_4 (by decide) (fun c4 => ?_) (fun c4 => ?_)
  · refine x_iload_n C dX5_manOf_9 rfl ?_
    refine x_if_lt C 18 dX5_manOf_10 (by decide) (fun c10 => ?_) (fun c10 => ?_)
    · refine x_bipush C (v := (-2)) dX5_manOf_18 (by decide +kernel) ?_
      exact x_iret E .int dX5_manOf_20 rfl rfl rfl rfl
    · refine x_iload_n C dX5_manOf_13 rfl ?_
      refine x_iconst C (v := nI 3) dX5_manOf_14 (by decide +kernel) ?_
      refine x_icmp_le C 21 dX5_manOf_15 (by decide) (fun c15 => ?_) (fun c15 => ?_)
      · exact absurd hy (fun q => q.elim c10 (fun z => absurd c15 (Int32.not_le.mpr z)))
      · refine x_bipush C (v := (-2)) dX5_manOf_18 (by decide +kernel) ?_
        exact x_iret E .int dX5_manOf_20 rfl rfl rfl rfl
  · cases c4
def manOfF (b : Nat → Nat) (Tk : Nat → Int32) (i k : Nat) : Int32 :=
  if b i = 0 then -4
  else if k = 0 then nI (cnt (reachP b i) 25)
  else if k = 1 then nI (cnt (movP b i) 25)
  else if fitsB b = false then -4
  else if k = 2 then nI (cnt (keyP b i) 25)
  else qb (csP b (keyP b) (tkF b Tk) i)
def manOfX (b : Nat → Nat) (k : Nat) (i : Nat) : Prop := k = 3 ∧ b i ≠ 0 ∧ fitsB b = true
set_option maxHeartbeats 4000000 in
set_option maxRecDepth 100000 in
theorem okX5_manOf_p2 {a b c d : qP} {Hs : qHs} {L : qLs} {S : qSs} {V : qVs} {ms : qms} {mr : qmr} {mm : qmm} {ml : qml} {mt : qmt} {Tm Tk : Nat → Int32} {ta mc : Nat → Nat} (ha : Bd a.1) {i k : Nat} (hi : i < 25) (hk3 : k ≤ 3) (hk : ¬ manOfX a.1 k i) : Ok MX5_manOf [.ref 0, .int (nI i), .int (nI k)] (HH (a, b, c, d) Hs (Tm, Tk, ta, mc) L S V ms mr mm ml mt) (some (.int (manOfF a.1 Tk i k))) (HH (a, b, c, d) Hs (Tm, Tk, ta, mc) L S V ms mr mm ml mt) := by
  refine ok_of (by decide +kernel) (Nat.zero_le _) (Nat.le_of_ble_eq_true rfl) ?_
  intro X C E
  show Ex X MX5_manOf 0 [(0, .ref 0), (1, .int (nI i)), (2, .int (nI k))] [] (HH (a, b, c, d) Hs (Tm, Tk, ta, mc) L S V ms mr mm ml mt)
  have hai := ha.1 i
  refine x_iload_n C dX5_manOf_0 rfl ?_
  refine x_callS1i C (okX5_isSquare _ _) lkX5_95 miX5_isSquare mtX5_isSquare maX5_isSquare ⟨Nat.le_of_ble_eq_true rfl, Nat.le_of_ble_eq_true rfl⟩ (Nat.le_of_ble_eq_true rfl) dX5_manOf_1 ?_
  rw [isSq_nI (by omega), decide_eq_true hi]
  refine x_if_neB C 9 dX5_manOf_4 (by decide) (fun c4 => ?_) (fun c4 => ?_)
  · refine x_iload_n C dX5_manOf_9 rfl ?_
    refine x_if_ltN C 18 dX5_manOf_10 (by decide) (by omega) ?_
    refine x_iload_n C dX5_manOf_13 rfl ?_
    refine x_iconst C (v := nI 3) dX5_manOf_14 (by decide +kernel) ?_
    refine x_icmp_leN C 21 dX5_manOf_15 (by decide) (by omega) (by omega) (fun c15 => ?_) (fun c15 => ?_)
    · refine x_aload_n C dX5_manOf_21 rfl ?_
      refine x_getfield C qk5 0 (by decide) lfX5_12 dX5_manOf_22 rfl rfl ?_
      refine x_iload_n C dX5_manOf_25 rfl ?_
      refine x_callV1i C (okX3_manOn PosA_now hi) lkX5_99 miX3_manOn msX3_manOn maX3_manOn ⟨Nat.le_of_ble_eq_true rfl, Nat.le_of_ble_eq_true rfl⟩ (Nat.le_of_ble_eq_true rfl) rfl rfl dX5_manOf_26 ?_
      refine x_if_neN C 35 dX5_manOf_29 (by decide) (by omega) (fun c29 => ?_) (fun c29 => ?_)
      · refine x_iload_n C dX5_manOf_35 rfl ?_
        refine x_if_neN C 51 dX5_manOf_36 (by decide) (by omega) (fun c36 => ?_) (fun c36 => ?_)
        · refine x_iload_n C dX5_manOf_51 rfl ?_
          refine x_iconst C (v := nI 1) dX5_manOf_52 (by decide +kernel) ?_
          refine x_icmp_neN C 68 dX5_manOf_53 (by decide) (by omega) (by omega) (fun c53 => ?_) (fun c53 => ?_)
          · refine x_aload_n C dX5_manOf_68 rfl ?_
            refine x_getfield C qk5 0 (by decide) lfX5_12 dX5_manOf_69 rfl rfl ?_
            refine x_callV0i C (okX3_fits PosA_now ha.1) lkX5_117 miX3_fits msX3_fits maX3_fits ⟨Nat.le_of_ble_eq_true rfl, Nat.le_of_ble_eq_true rfl⟩ (Nat.le_of_ble_eq_true rfl) rfl rfl dX5_manOf_72 ?_
            refine x_if_neB C 81 dX5_manOf_75 (by decide) (fun c75 => ?_) (fun c75 => ?_)
            · refine x_iload_n C dX5_manOf_81 rfl ?_
              refine x_iconst C (v := nI 2) dX5_manOf_82 (by decide +kernel) ?_
              refine x_icmp_neN C 98 dX5_manOf_83 (by decide) (by omega) (by omega) (fun c83 => ?_) (fun c83 => ?_)
              · exact absurd ⟨by omega, c29, c75⟩ hk
              · refine x_aload_n C dX5_manOf_86 rfl ?_
                refine x_getfield C qk5 0 (by decide) lfX5_12 dX5_manOf_87 rfl rfl ?_
                refine x_iload_n C dX5_manOf_90 rfl ?_
                refine x_callV1i C (okX3_keysFrom PosA_now ha.1 hi) lkX5_121 miX3_keysFrom msX3_keysFrom maX3_keysFrom ⟨Nat.le_of_ble_eq_true rfl, Nat.le_of_ble_eq_true rfl⟩ (Nat.le_of_ble_eq_true rfl) rfl rfl dX5_manOf_91 ?_
                refine x_callS1i C (okX5_bitsOf _ _) lkX5_111 miX5_bitsOf mtX5_bitsOf maX5_bitsOf ⟨Nat.le_of_ble_eq_true rfl, Nat.le_of_ble_eq_true rfl⟩ (Nat.le_of_ble_eq_true rfl) dX5_manOf_94 ?_
                exact x_iret E .int dX5_manOf_97 rfl rfl (by unfold manOfF; rw [if_neg c29, if_neg c36, if_neg c53, if_neg (by rw [c75]; decide), if_pos c83]) rfl
            · refine x_bipush C (v := (-4)) dX5_manOf_78 (by decide +kernel) ?_
              exact x_iret E .int dX5_manOf_80 rfl rfl (by unfold manOfF; rw [if_neg c29, if_neg c36, if_neg c53, if_pos c75]) rfl
          · refine x_aload_n C dX5_manOf_56 rfl ?_
            refine x_getfield C qk5 0 (by decide) lfX5_12 dX5_manOf_57 rfl rfl ?_
            refine x_iload_n C dX5_manOf_60 rfl ?_
            refine x_callV1i C (okX3_movesFrom PosA_now ha.1 hi) lkX5_114 miX3_movesFrom msX3_movesFrom maX3_movesFrom ⟨Nat.le_of_ble_eq_true rfl, Nat.le_of_ble_eq_true rfl⟩ (Nat.le_of_ble_eq_true rfl) rfl rfl dX5_manOf_61 ?_
            refine x_callS1i C (okX5_bitsOf _ _) lkX5_111 miX5_bitsOf mtX5_bitsOf maX5_bitsOf ⟨Nat.le_of_ble_eq_true rfl, Nat.le_of_ble_eq_true rfl⟩ (Nat.le_of_ble_eq_true rfl) dX5_manOf_64 ?_
            exact x_iret E .int dX5_manOf_67 rfl rfl (by unfold manOfF; rw [if_neg c29, if_neg c36, if_pos c53]) rfl
        · refine x_aload_n C dX5_manOf_39 rfl ?_
          refine x_getfield C qk5 0 (by decide) lfX5_12 dX5_manOf_40 rfl rfl ?_
          refine x_iload_n C dX5_manOf_43 rfl ?_
          refine x_callV1i C (okX3_reach PosA_now ha.1 hi) lkX5_108 miX3_reach msX3_reach maX3_reach ⟨Nat.le_of_ble_eq_true rfl, Nat.le_of_ble_eq_true rfl⟩ (Nat.le_of_ble_eq_true rfl) rfl rfl dX5_manOf_44 ?_
          refine x_callS1i C (okX5_bitsOf _ _) lkX5_111 miX5_bitsOf mtX5_bitsOf maX5_bitsOf ⟨Nat.le_of_ble_eq_true rfl, Nat.le_of_ble_eq_true rfl⟩ (Nat.le_of_ble_eq_true rfl) dX5_manOf_47 ?_
          exact x_iret E .int dX5_manOf_50 rfl rfl (by unfold manOfF; rw [if_neg c29, if_pos c36]) rfl
      · refine x_bipush C (v := (-4)) dX5_manOf_32 (by decide +kernel) ?_
        exact x_iret E .int dX5_manOf_34 rfl rfl (by unfold manOfF; rw [if_pos c29]) rfl
    · omega
  · cases c4
set_option maxHeartbeats 4000000 in
set_option maxRecDepth 100000 in
theorem okX5_manOf_p3 {a b c d : qP} {Hs : qHs} {L : qLs} {S : qSs} {V : qVs} {ms : qms} {mr : qmr} {mm : qmm} {ml : qml} {mt : qmt} {Tm Tk : Nat → Int32} {ta mc : Nat → Nat} (ha : Bd a.1) (hc : Bd c.1) {i k : Nat} (hi : i < 25) (hk : manOfX a.1 k i) : Ok MX5_manOf [.ref 0, .int (nI i), .int (nI k)] (HH (a, b, c, d) Hs (Tm, Tk, ta, mc) L S V ms mr mm ml mt) (some (.int (manOfF a.1 Tk i k))) (HH (a, b, csT a c (keyP a.1) i, d) Hs (Tm, tkF a.1 Tk, ta, mc) L S V ms mr mm ml mt) := by
  refine ok_of (by decide +kernel) (Nat.zero_le _) (Nat.le_of_ble_eq_true rfl) ?_
  intro X C E
  show Ex X MX5_manOf 0 [(0, .ref 0), (1, .int (nI i)), (2, .int (nI k))] [] (HH (a, b, c, d) Hs (Tm, Tk, ta, mc) L S V ms mr mm ml mt)
  have hai := ha.1 i
  have hk3 : k = 3 := hk.1
  refine x_iload_n C dX5_manOf_0 rfl ?_
  refine x_callS1i C (okX5_isSquare _ _) lkX5_95 miX5_isSquare mtX5_isSquare maX5_isSquare ⟨Nat.le_of_ble_eq_true rfl, Nat.le_of_ble_eq_true rfl⟩ (Nat.le_of_ble_eq_true rfl) dX5_manOf_1 ?_
  rw [isSq_nI (by omega), decide_eq_true hi]
  refine x_if_neB C 9 dX5_manOf_4 (by decide) (fun c4 => ?_) (fun c4 => ?_)
  · refine x_iload_n C dX5_manOf_9 rfl ?_
    refine x_if_ltN C 18 dX5_manOf_10 (by decide) (by omega) ?_
    refine x_iload_n C dX5_manOf_13 rfl ?_
    refine x_iconst C (v := nI 3) dX5_manOf_14 (by decide +kernel) ?_
    refine x_icmp_leN C 21 dX5_manOf_15 (by decide) (by omega) (by omega) (fun c15 => ?_) (fun c15 => ?_)
    · refine x_aload_n C dX5_manOf_21 rfl ?_
      refine x_getfield C qk5 0 (by decide) lfX5_12 dX5_manOf_22 rfl rfl ?_
      refine x_iload_n C dX5_manOf_25 rfl ?_
      refine x_callV1i C (okX3_manOn PosA_now hi) lkX5_99 miX3_manOn msX3_manOn maX3_manOn ⟨Nat.le_of_ble_eq_true rfl, Nat.le_of_ble_eq_true rfl⟩ (Nat.le_of_ble_eq_true rfl) rfl rfl dX5_manOf_26 ?_
      refine x_if_neN C 35 dX5_manOf_29 (by decide) (by omega) (fun c29 => ?_) (fun c29 => ?_)
      · refine x_iload_n C dX5_manOf_35 rfl ?_
        refine x_if_neN C 51 dX5_manOf_36 (by decide) (by omega) (fun c36 => ?_) (fun c36 => ?_)
        · refine x_iload_n C dX5_manOf_51 rfl ?_
          refine x_iconst C (v := nI 1) dX5_manOf_52 (by decide +kernel) ?_
          refine x_icmp_neN C 68 dX5_manOf_53 (by decide) (by omega) (by omega) (fun c53 => ?_) (fun c53 => ?_)
          · refine x_aload_n C dX5_manOf_68 rfl ?_
            refine x_getfield C qk5 0 (by decide) lfX5_12 dX5_manOf_69 rfl rfl ?_
            refine x_callV0i C (okX3_fits PosA_now ha.1) lkX5_117 miX3_fits msX3_fits maX3_fits ⟨Nat.le_of_ble_eq_true rfl, Nat.le_of_ble_eq_true rfl⟩ (Nat.le_of_ble_eq_true rfl) rfl rfl dX5_manOf_72 ?_
            refine x_if_neB C 81 dX5_manOf_75 (by decide) (fun c75 => ?_) (fun c75 => ?_)
            · refine x_iload_n C dX5_manOf_81 rfl ?_
              refine x_iconst C (v := nI 2) dX5_manOf_82 (by decide +kernel) ?_
              refine x_icmp_neN C 98 dX5_manOf_83 (by decide) (by omega) (by omega) (fun c83 => ?_) (fun c83 => ?_)
              · refine x_aload_n C dX5_manOf_98 rfl ?_
                refine x_getfield C qk5 7 (by decide) lfX5_39 dX5_manOf_99 rfl rfl ?_
                refine x_aload_n C dX5_manOf_102 rfl ?_
                refine x_getfield C qk5 0 (by decide) lfX5_12 dX5_manOf_103 rfl rfl ?_
                refine x_callV1v C (okX2_fillWithKeys TabA_k PosA_now ha.1 (by decide) (by decide)) lkX5_124 miX2_fillWithKeys msX2_fillWithKeys maX2_fillWithKeys ⟨Nat.le_of_ble_eq_true rfl, Nat.le_of_ble_eq_true rfl⟩ (Nat.le_of_ble_eq_true rfl) rfl rfl dX5_manOf_106 ?_
                refine x_heap (h2 := HH (a, b, c, d) Hs (Tm, tkF a.1 Tk, ta, mc) L S V ms mr mm ml mt) (by rfl) ?_
                refine x_aload_n C dX5_manOf_109 rfl ?_
                refine x_iload_n C dX5_manOf_110 rfl ?_
                refine x_callV1i C (okX5_canSpare ha hc (keyP a.1) (tkF_at a.1 Tk) hi) lkX5_127 miX5_canSpare msX5_canSpare maX5_canSpare ⟨Nat.le_of_ble_eq_true rfl, Nat.le_of_ble_eq_true rfl⟩ (Nat.le_of_ble_eq_true rfl) rfl rfl dX5_manOf_111 ?_
                refine x_if_eqB C 121 dX5_manOf_114 (by decide) (fun c114 => ?_) (fun c114 => ?_)
                · refine x_iconst C (v := nI 0) dX5_manOf_121 (by decide +kernel) ?_
                  exact x_iret E .int dX5_manOf_122 rfl rfl (by unfold manOfF; rw [if_neg c29, if_neg c36, if_neg c53, if_neg (by rw [c75]; decide), if_neg c83, c114]; rfl) rfl
                · refine x_iconst C (v := nI 1) dX5_manOf_117 (by decide +kernel) ?_
                  refine x_goto C 122 dX5_manOf_118 (by decide) ?_
                  exact x_iret E .int dX5_manOf_122 rfl rfl (by unfold manOfF; rw [if_neg c29, if_neg c36, if_neg c53, if_neg (by rw [c75]; decide), if_neg c83, c114]; rfl) rfl
              · exact absurd hk.1 (by omega)
            · exact absurd hk.2.2 (by rw [c75]; decide)
          · exact absurd hk.1 (by omega)
        · exact absurd hk.1 (by omega)
      · exact absurd c29 hk.2.1
    · omega
  · cases c4
def tmF (b : Nat → Nat) (Tm : Nat → Int32) : Nat → Int32 := fil (fun i => mask (movP b i)) Tm 25
theorem tmF_at (b : Nat → Nat) (Tm : Nat → Int32) : ∀ j, j < 25 → tmF b Tm j = mask (movP b j) := by
  intro j hj
  simp [tmF, fil, hj]
set_option maxHeartbeats 4000000 in
set_option maxRecDepth 100000 in
theorem okX5_move {a b c d : qP} {Hs : qHs} {L : qLs} {S : qSs} {V : qVs} {ms : qms} {mr : qmr} {mm : qmm} {ml : qml} {mt : qmt} {Tm Tk : Nat → Int32} {ta mc : Nat → Nat} (ha : Bd a.1) (x : Int32) : Ok MX5_move [.ref 0, .int x] (HH (a, b, c, d) Hs (Tm, Tk, ta, mc) L S V ms mr mm ml mt) (some (.int (pk x (allL (movP a.1) 25 0) 0))) (HH (a, b, c, d) Hs (tmF a.1 Tm, Tk, ta, mc) L S V ms mr mm ml mt) := by
  refine ok_of (by decide +kernel) (Nat.zero_le _) (Nat.le_of_ble_eq_true rfl) ?_
  intro X C E
  show Ex X MX5_move 0 [(0, .ref 0), (1, .int x)] [] (HH (a, b, c, d) Hs (Tm, Tk, ta, mc) L S V ms mr mm ml mt)
  refine x_aload_n C dX5_move_0 rfl ?_
  refine x_getfield C qk5 6 (by decide) lfX5_35 dX5_move_1 rfl rfl ?_
  refine x_aload_n C dX5_move_4 rfl ?_
  refine x_getfield C qk5 0 (by decide) lfX5_12 dX5_move_5 rfl rfl ?_
  refine x_callV1v C (okX2_fillWithMoves TabA_m PosA_now ha.1 (by decide) (by decide)) lkX5_130 miX2_fillWithMoves msX2_fillWithMoves maX2_fillWithMoves ⟨Nat.le_of_ble_eq_true rfl, Nat.le_of_ble_eq_true rfl⟩ (Nat.le_of_ble_eq_true rfl) rfl rfl dX5_move_8 ?_
  refine x_heap (h2 := HH (a, b, c, d) Hs (tmF a.1 Tm, Tk, ta, mc) L S V ms mr mm ml mt) (by rfl) ?_
  refine x_aload_n C dX5_move_11 rfl ?_
  refine x_getfield C qk5 6 (by decide) lfX5_35 dX5_move_12 rfl rfl ?_
  refine x_iload_n C dX5_move_15 rfl ?_
  refine x_callV1i C (okX2_pick TabA_m (movP a.1) (tmF_at a.1 Tm) x) lkX5_133 miX2_pick msX2_pick maX2_pick ⟨Nat.le_of_ble_eq_true rfl, Nat.le_of_ble_eq_true rfl⟩ (Nat.le_of_ble_eq_true rfl) rfl rfl dX5_move_16 ?_
  exact x_iret E .int dX5_move_19 rfl rfl rfl rfl
def escF (b : Nat → Nat) : Int32 := if loc7 b 7 = none then -4 else mask (escP b)
set_option maxHeartbeats 4000000 in
set_option maxRecDepth 100000 in
theorem okX5_escapes {a b c d : qP} {Hs : qHs} {T : qTs} {L : qLs} {S : qSs} {V : qVs} {ms : qms} {mr : qmr} {mm : qmm} {ml : qml} {mt : qmt} (ha : Bd a.1) : Ok MX5_escapes [.ref 0] (HH (a, b, c, d) Hs T L S V ms mr mm ml mt) (some (.int (escF a.1))) (HH (a, b, c, d) Hs T L S V ms mr mm ml mt) := by
  refine ok_of (by decide +kernel) (Nat.zero_le _) (Nat.le_of_ble_eq_true rfl) ?_
  intro X C E
  show Ex X MX5_escapes 0 [(0, .ref 0)] [] (HH (a, b, c, d) Hs T L S V ms mr mm ml mt)
  refine x_aload_n C dX5_escapes_0 rfl ?_
  refine x_getfield C qk5 0 (by decide) lfX5_12 dX5_escapes_1 rfl rfl ?_
  refine x_bipush C (v := nI 7) dX5_escapes_4 (by decide +kernel) ?_
  refine x_callV1i C (okX3_squareOf PosA_now ha.1 7 (by decide)) lkX5_136 miX3_squareOf msX3_squareOf maX3_squareOf ⟨Nat.le_of_ble_eq_true rfl, Nat.le_of_ble_eq_true rfl⟩ (Nat.le_of_ble_eq_true rfl) rfl rfl dX5_escapes_6 ?_
  refine x_if_ge C 15 dX5_escapes_9 (by decide) (fun c9 => ?_) (fun c9 => ?_)
  · refine x_aload_n C dX5_escapes_15 rfl ?_
    refine x_getfield C qk5 0 (by decide) lfX5_12 dX5_escapes_16 rfl rfl ?_
    refine x_callV0i C (okX3_outlook PosA_now ha.1) lkX5_139 miX3_outlook msX3_outlook maX3_outlook ⟨Nat.le_of_ble_eq_true rfl, Nat.le_of_ble_eq_true rfl⟩ (Nat.le_of_ble_eq_true rfl) rfl rfl dX5_escapes_19 ?_
    refine x_callS1i C (okX5_squaresIn _ _ _) lkX5_142 miX5_squaresIn mtX5_squaresIn maX5_squaresIn ⟨Nat.le_of_ble_eq_true rfl, Nat.le_of_ble_eq_true rfl⟩ (Nat.le_of_ble_eq_true rfl) dX5_escapes_22 ?_
    exact x_iret E .int dX5_escapes_25 rfl rfl (by unfold escF; rw [if_neg (fun z => absurd (sqI_neg7.mpr z) (Int32.not_lt.mpr c9))]) rfl
  · refine x_bipush C (v := (-4)) dX5_escapes_12 (by decide +kernel) ?_
    exact x_iret E .int dX5_escapes_14 rfl rfl (by unfold escF; rw [if_pos (sqI_neg7.mp (Int32.not_le.mp c9))]) rfl
set_option maxHeartbeats 4000000 in
set_option maxRecDepth 100000 in
theorem okX5_isFit {a b c d : qP} {Hs : qHs} {T : qTs} {L : qLs} {S : qSs} {V : qVs} {ms : qms} {mr : qmr} {mm : qmm} {ml : qml} {mt : qmt} (ha : Bd a.1) : Ok MX5_isFit [.ref 0] (HH (a, b, c, d) Hs T L S V ms mr mm ml mt) (some (.int (qb (fitsB a.1)))) (HH (a, b, c, d) Hs T L S V ms mr mm ml mt) := by
  refine ok_of (by decide +kernel) (Nat.zero_le _) (Nat.le_of_ble_eq_true rfl) ?_
  intro X C E
  show Ex X MX5_isFit 0 [(0, .ref 0)] [] (HH (a, b, c, d) Hs T L S V ms mr mm ml mt)
  refine x_aload_n C dX5_isFit_0 rfl ?_
  refine x_getfield C qk5 0 (by decide) lfX5_12 dX5_isFit_1 rfl rfl ?_
  refine x_callV0i C (okX3_fits PosA_now ha.1) lkX5_117 miX3_fits msX3_fits maX3_fits ⟨Nat.le_of_ble_eq_true rfl, Nat.le_of_ble_eq_true rfl⟩ (Nat.le_of_ble_eq_true rfl) rfl rfl dX5_isFit_4 ?_
  refine x_if_eqB C 14 dX5_isFit_7 (by decide) (fun c7 => ?_) (fun c7 => ?_)
  · refine x_iconst C (v := nI 0) dX5_isFit_14 (by decide +kernel) ?_
    exact x_iret E .int dX5_isFit_15 rfl rfl (by rw [c7]; rfl) rfl
  · refine x_iconst C (v := nI 1) dX5_isFit_10 (by decide +kernel) ?_
    refine x_goto C 15 dX5_isFit_11 (by decide) ?_
    exact x_iret E .int dX5_isFit_15 rfl rfl (by rw [c7]; rfl) rfl
set_option maxHeartbeats 4000000 in
set_option maxRecDepth 100000 in
theorem okX5_key_p0 {a b c d : qP} {Hs : qHs} {T : qTs} {L : qLs} {S : qSs} {V : qVs} {ms : qms} {mr : qmr} {mm : qmm} {ml : qml} {mt : qmt} (ha : Bd a.1) (hf : fitsB a.1 = false) (x : Int32) : Ok MX5_key [.ref 0, .int x] (HH (a, b, c, d) Hs T L S V ms mr mm ml mt) (some (.int (-4))) (HH (a, b, c, d) Hs T L S V ms mr mm ml mt) := by
  refine ok_of (by decide +kernel) (Nat.zero_le _) (Nat.le_of_ble_eq_true rfl) ?_
  intro X C E
  show Ex X MX5_key 0 [(0, .ref 0), (1, .int x)] [] (HH (a, b, c, d) Hs T L S V ms mr mm ml mt)
  refine x_aload_n C dX5_key_0 rfl ?_
  refine x_getfield C qk5 0 (by decide) lfX5_12 dX5_key_1 rfl rfl ?_
  refine x_callV0i C (okX3_fits PosA_now ha.1) lkX5_117 miX3_fits msX3_fits maX3_fits ⟨Nat.le_of_ble_eq_true rfl, Nat.le_of_ble_eq_true rfl⟩ (Nat.le_of_ble_eq_true rfl) rfl rfl dX5_key_4 ?_
  rw [hf]
  refine x_if_neB C 13 dX5_key_7 (by decide) (fun c7 => ?_) (fun c7 => ?_)
  · cases c7
  · refine x_bipush C (v := (-4)) dX5_key_10 (by decide +kernel) ?_
    exact x_iret E .int dX5_key_12 rfl rfl rfl rfl
set_option maxHeartbeats 4000000 in
set_option maxRecDepth 100000 in
theorem okX5_key_p1 {a b c d : qP} {Hs : qHs} {L : qLs} {S : qSs} {V : qVs} {ms : qms} {mr : qmr} {mm : qmm} {ml : qml} {mt : qmt} {Tm Tk : Nat → Int32} {ta mc : Nat → Nat} (ha : Bd a.1) (hf : fitsB a.1 = true) (x : Int32) : Ok MX5_key [.ref 0, .int x] (HH (a, b, c, d) Hs (Tm, Tk, ta, mc) L S V ms mr mm ml mt) (some (.int (pk x (allL (keyP a.1) 25 0) 0))) (HH (a, b, c, d) Hs (Tm, tkF a.1 Tk, ta, mc) L S V ms mr mm ml mt) := by
  refine ok_of (by decide +kernel) (Nat.zero_le _) (Nat.le_of_ble_eq_true rfl) ?_
  intro X C E
  show Ex X MX5_key 0 [(0, .ref 0), (1, .int x)] [] (HH (a, b, c, d) Hs (Tm, Tk, ta, mc) L S V ms mr mm ml mt)
  refine x_aload_n C dX5_key_0 rfl ?_
  refine x_getfield C qk5 0 (by decide) lfX5_12 dX5_key_1 rfl rfl ?_
  refine x_callV0i C (okX3_fits PosA_now ha.1) lkX5_117 miX3_fits msX3_fits maX3_fits ⟨Nat.le_of_ble_eq_true rfl, Nat.le_of_ble_eq_true rfl⟩ (Nat.le_of_ble_eq_true rfl) rfl rfl dX5_key_4 ?_
  rw [hf]
  refine x_if_neB C 13 dX5_key_7 (by decide) (fun c7 => ?_) (fun c7 => ?_)
  · refine x_aload_n C dX5_key_13 rfl ?_
    refine x_getfield C qk5 7 (by decide) lfX5_39 dX5_key_14 rfl rfl ?_
    refine x_aload_n C dX5_key_17 rfl ?_
    refine x_getfield C qk5 0 (by decide) lfX5_12 dX5_key_18 rfl rfl ?_
    refine x_callV1v C (okX2_fillWithKeys TabA_k PosA_now ha.1 (by decide) (by decide)) lkX5_124 miX2_fillWithKeys msX2_fillWithKeys maX2_fillWithKeys ⟨Nat.le_of_ble_eq_true rfl, Nat.le_of_ble_eq_true rfl⟩ (Nat.le_of_ble_eq_true rfl) rfl rfl dX5_key_21 ?_
    refine x_heap (h2 := HH (a, b, c, d) Hs (Tm, tkF a.1 Tk, ta, mc) L S V ms mr mm ml mt) (by rfl) ?_
    refine x_aload_n C dX5_key_24 rfl ?_
    refine x_getfield C qk5 7 (by decide) lfX5_39 dX5_key_25 rfl rfl ?_
    refine x_iload_n C dX5_key_28 rfl ?_
    refine x_callV1i C (okX2_pick TabA_k (keyP a.1) (tkF_at a.1 Tk) x) lkX5_133 miX2_pick msX2_pick maX2_pick ⟨Nat.le_of_ble_eq_true rfl, Nat.le_of_ble_eq_true rfl⟩ (Nat.le_of_ble_eq_true rfl) rfl rfl dX5_key_29 ?_
    exact x_iret E .int dX5_key_32 rfl rfl rfl rfl
  · cases c7
def kindF (b : Nat → Nat) (i j : Nat) : Int32 := if movP b i j = false then -1 else if fitsB b = false then -4 else nI (kindB (aft b i j))
def refuF (b : Nat → Nat) (i j : Nat) : Int32 := if fitsB b = false then -4 else if movP b i j = true ∧ kindB (aft b i j) = 2 then low (escP (aft b i j)) 25 0 else -1
set_option maxHeartbeats 4000000 in
set_option maxRecDepth 100000 in
theorem okX5_kind_out {a b c d : qP} {Hs : qHs} {T : qTs} {L : qLs} {S : qSs} {V : qVs} {ms : qms} {mr : qmr} {mm : qmm} {ml : qml} {mt : qmt} (ha : Bd a.1) {x y : Int32} (hx : isSq x = false ∨ isSq y = false) : Ok MX5_kind [.ref 0, .int x, .int y] (HH (a, b, c, d) Hs T L S V ms mr mm ml mt) (some (.int (-1))) (HH (a, b, c, d) Hs T L S V ms mr mm ml mt) := by
  refine ok_of (by decide +kernel) (Nat.zero_le _) (Nat.le_of_ble_eq_true rfl) ?_
  intro X C E
  show Ex X MX5_kind 0 [(0, .ref 0), (1, .int x), (2, .int y)] [] (HH (a, b, c, d) Hs T L S V ms mr mm ml mt)
  refine x_aload_n C dX5_kind_0 rfl ?_
  refine x_getfield C qk5 0 (by decide) lfX5_12 dX5_kind_1 rfl rfl ?_
  refine x_iload_n C dX5_kind_4 rfl ?_
  refine x_iload_n C dX5_kind_5 rfl ?_
  refine x_callV2i C (okX3_hasMove_out PosA_now hx) lkX5_145 miX3_hasMove msX3_hasMove maX3_hasMove ⟨Nat.le_of_ble_eq_true rfl, Nat.le_of_ble_eq_true rfl⟩ (Nat.le_of_ble_eq_true rfl) rfl rfl dX5_kind_6 ?_
  refine x_if_neN C 14 dX5_kind_9 (by decide) (by omega) (fun c9 => ?_) (fun c9 => ?_)
  · exact absurd rfl c9
  · refine x_iconst C (v := (-1)) dX5_kind_12 (by decide +kernel) ?_
    exact x_iret E .int dX5_kind_13 rfl rfl rfl rfl
set_option maxHeartbeats 4000000 in
set_option maxRecDepth 100000 in
theorem okX5_kind_in {a b c d : qP} {Hs : qHs} {T : qTs} {L : qLs} {S : qSs} {V : qVs} {ms : qms} {mr : qmr} {mm : qmm} {ml : qml} {mt : qmt} (ha : Bd a.1) {i j : Nat} (hi : i < 25) (hj : j < 25) : Ok MX5_kind [.ref 0, .int (nI i), .int (nI j)] (HH (a, b, c, d) Hs T L S V ms mr mm ml mt) (some (.int (kindF a.1 i j))) (HH (a, b, c, d) Hs T L S V ms mr mm ml mt) := by
  refine ok_of (by decide +kernel) (Nat.zero_le _) (Nat.le_of_ble_eq_true rfl) ?_
  intro X C E
  show Ex X MX5_kind 0 [(0, .ref 0), (1, .int (nI i)), (2, .int (nI j))] [] (HH (a, b, c, d) Hs T L S V ms mr mm ml mt)
  refine x_aload_n C dX5_kind_0 rfl ?_
  refine x_getfield C qk5 0 (by decide) lfX5_12 dX5_kind_1 rfl rfl ?_
  refine x_iload_n C dX5_kind_4 rfl ?_
  refine x_iload_n C dX5_kind_5 rfl ?_
  refine x_callV2i C (okX3_hasMove PosA_now ha.1 hi hj) lkX5_145 miX3_hasMove msX3_hasMove maX3_hasMove ⟨Nat.le_of_ble_eq_true rfl, Nat.le_of_ble_eq_true rfl⟩ (Nat.le_of_ble_eq_true rfl) rfl rfl dX5_kind_6 ?_
  refine x_if_neB C 14 dX5_kind_9 (by decide) (fun c9 => ?_) (fun c9 => ?_)
  · refine x_aload_n C dX5_kind_14 rfl ?_
    refine x_getfield C qk5 0 (by decide) lfX5_12 dX5_kind_15 rfl rfl ?_
    refine x_callV0i C (okX3_fits PosA_now ha.1) lkX5_117 miX3_fits msX3_fits maX3_fits ⟨Nat.le_of_ble_eq_true rfl, Nat.le_of_ble_eq_true rfl⟩ (Nat.le_of_ble_eq_true rfl) rfl rfl dX5_kind_18 ?_
    refine x_if_neB C 27 dX5_kind_21 (by decide) (fun c21 => ?_) (fun c21 => ?_)
    · refine x_aload_n C dX5_kind_27 rfl ?_
      refine x_getfield C qk5 0 (by decide) lfX5_12 dX5_kind_28 rfl rfl ?_
      refine x_iload_n C dX5_kind_31 rfl ?_
      refine x_iload_n C dX5_kind_32 rfl ?_
      refine x_callV2i C (okX3_kindOfMove PosA_now ha.1 hi hj) lkX5_149 miX3_kindOfMove msX3_kindOfMove maX3_kindOfMove ⟨Nat.le_of_ble_eq_true rfl, Nat.le_of_ble_eq_true rfl⟩ (Nat.le_of_ble_eq_true rfl) rfl rfl dX5_kind_33 ?_
      exact x_iret E .int dX5_kind_36 rfl rfl (by unfold kindF; rw [if_neg (by rw [c9]; decide), if_neg (by rw [c21]; decide)]) rfl
    · refine x_bipush C (v := (-4)) dX5_kind_24 (by decide +kernel) ?_
      exact x_iret E .int dX5_kind_26 rfl rfl (by unfold kindF; rw [if_neg (by rw [c9]; decide), if_pos c21]) rfl
  · refine x_iconst C (v := (-1)) dX5_kind_12 (by decide +kernel) ?_
    exact x_iret E .int dX5_kind_13 rfl rfl (by unfold kindF; rw [if_pos c9]) rfl
set_option maxHeartbeats 4000000 in
set_option maxRecDepth 100000 in
theorem okX5_refutation_out {a b c d : qP} {Hs : qHs} {T : qTs} {L : qLs} {S : qSs} {V : qVs} {ms : qms} {mr : qmr} {mm : qmm} {ml : qml} {mt : qmt} {x y : Int32} (hx : isSq x = false ∨ isSq y = false) : Ok MX5_refutation [.ref 0, .int x, .int y] (HH (a, b, c, d) Hs T L S V ms mr mm ml mt) (some (.int (-1))) (HH (a, b, c, d) Hs T L S V ms mr mm ml mt) := by
  refine ok_of (by decide +kernel) (Nat.zero_le _) (Nat.le_of_ble_eq_true rfl) ?_
  intro X C E
  show Ex X MX5_refutation 0 [(0, .ref 0), (1, .int x), (2, .int y)] [] (HH (a, b, c, d) Hs T L S V ms mr mm ml mt)
  refine x_iload_n C dX5_refutation_0 rfl ?_
  refine x_callS1i C (okX5_isSquare _ _) lkX5_95 miX5_isSquare mtX5_isSquare maX5_isSquare ⟨Nat.le_of_ble_eq_true rfl, Nat.le_of_ble_eq_true rfl⟩ (Nat.le_of_ble_eq_true rfl) dX5_refutation_1 ?_
  refine x_if_eqB C 14 dX5_refutation_4 (by decide) (fun c4 => ?_) (fun c4 => ?_)
  · refine x_iconst C (v := (-1)) dX5_refutation_14 (by decide +kernel) ?_
    exact x_iret E .int dX5_refutation_15 rfl rfl rfl rfl
  · refine x_iload_n C dX5_refutation_7 rfl ?_
    refine x_callS1i C (okX5_isSquare _ _) lkX5_95 miX5_isSquare mtX5_isSquare maX5_isSquare ⟨Nat.le_of_ble_eq_true rfl, Nat.le_of_ble_eq_true rfl⟩ (Nat.le_of_ble_eq_true rfl) dX5_refutation_8 ?_
    refine x_if_neB C 16 dX5_refutation_11 (by decide) (fun c11 => ?_) (fun c11 => ?_)
    · rcases hx with hx | hx
      · rw [c4] at hx; cases hx
      · rw [c11] at hx; cases hx
    · refine x_iconst C (v := (-1)) dX5_refutation_14 (by decide +kernel) ?_
      exact x_iret E .int dX5_refutation_15 rfl rfl rfl rfl
set_option maxHeartbeats 4000000 in
set_option maxRecDepth 100000 in
theorem okX5_refutation_in {a b c d : qP} {Hs : qHs} {T : qTs} {L : qLs} {S : qSs} {V : qVs} {ms : qms} {mr : qmr} {mm : qmm} {ml : qml} {mt : qmt} (ha : Bd a.1) {i j : Nat} (hi : i < 25) (hj : j < 25) : Ok MX5_refutation [.ref 0, .int (nI i), .int (nI j)] (HH (a, b, c, d) Hs T L S V ms mr mm ml mt) (some (.int (refuF a.1 i j))) (HH (a, b, c, d) Hs T L S V ms mr mm ml mt) := by
  refine ok_of (by decide +kernel) (Nat.zero_le _) (Nat.le_of_ble_eq_true rfl) ?_
  intro X C E
  show Ex X MX5_refutation 0 [(0, .ref 0), (1, .int (nI i)), (2, .int (nI j))] [] (HH (a, b, c, d) Hs T L S V ms mr mm ml mt)
  refine x_iload_n C dX5_refutation_0 rfl ?_
  refine x_callS1i C (okX5_isSquare _ _) lkX5_95 miX5_isSquare mtX5_isSquare maX5_isSquare ⟨Nat.le_of_ble_eq_true rfl, Nat.le_of_ble_eq_true rfl⟩ (Nat.le_of_ble_eq_true rfl) dX5_refutation_1 ?_
  rw [isSq_nI (by omega), decide_eq_true hi]
  refine x_if_eqB C 14 dX5_refutation_4 (by decide) (fun c4 => ?_) (fun c4 => ?_)
  · cases c4
  · refine x_iload_n C dX5_refutation_7 rfl ?_
    refine x_callS1i C (okX5_isSquare _ _) lkX5_95 miX5_isSquare mtX5_isSquare maX5_isSquare ⟨Nat.le_of_ble_eq_true rfl, Nat.le_of_ble_eq_true rfl⟩ (Nat.le_of_ble_eq_true rfl) dX5_refutation_8 ?_
    rw [isSq_nI (by omega), decide_eq_true hj]
    refine x_if_neB C 16 dX5_refutation_11 (by decide) (fun c11 => ?_) (fun c11 => ?_)
    · refine x_aload_n C dX5_refutation_16 rfl ?_
      refine x_getfield C qk5 0 (by decide) lfX5_12 dX5_refutation_17 rfl rfl ?_
      refine x_callV0i C (okX3_fits PosA_now ha.1) lkX5_117 miX3_fits msX3_fits maX3_fits ⟨Nat.le_of_ble_eq_true rfl, Nat.le_of_ble_eq_true rfl⟩ (Nat.le_of_ble_eq_true rfl) rfl rfl dX5_refutation_20 ?_
      refine x_if_neB C 29 dX5_refutation_23 (by decide) (fun c23 => ?_) (fun c23 => ?_)
      · refine x_aload_n C dX5_refutation_29 rfl ?_
        refine x_getfield C qk5 0 (by decide) lfX5_12 dX5_refutation_30 rfl rfl ?_
        refine x_iload_n C dX5_refutation_33 rfl ?_
        refine x_iload_n C dX5_refutation_34 rfl ?_
        refine x_callV2i C (okX3_hasMove PosA_now ha.1 hi hj) lkX5_145 miX3_hasMove msX3_hasMove maX3_hasMove ⟨Nat.le_of_ble_eq_true rfl, Nat.le_of_ble_eq_true rfl⟩ (Nat.le_of_ble_eq_true rfl) rfl rfl dX5_refutation_35 ?_
        refine x_if_eqB C 54 dX5_refutation_38 (by decide) (fun c38 => ?_) (fun c38 => ?_)
        · refine x_iconst C (v := (-1)) dX5_refutation_54 (by decide +kernel) ?_
          exact x_iret E .int dX5_refutation_55 rfl rfl (by unfold refuF; rw [if_neg (by rw [c23]; decide), if_neg (fun q => by rw [c38] at q; cases q.1)]) rfl
        · refine x_aload_n C dX5_refutation_41 rfl ?_
          refine x_getfield C qk5 0 (by decide) lfX5_12 dX5_refutation_42 rfl rfl ?_
          refine x_iload_n C dX5_refutation_45 rfl ?_
          refine x_iload_n C dX5_refutation_46 rfl ?_
          refine x_callV2i C (okX3_kindOfMove PosA_now ha.1 hi hj) lkX5_149 miX3_kindOfMove msX3_kindOfMove maX3_kindOfMove ⟨Nat.le_of_ble_eq_true rfl, Nat.le_of_ble_eq_true rfl⟩ (Nat.le_of_ble_eq_true rfl) rfl rfl dX5_refutation_47 ?_
          refine x_iconst C (v := nI 2) dX5_refutation_50 (by decide +kernel) ?_
          refine x_icmp_eqN C 56 dX5_refutation_51 (by decide) (by first | omega | (have := kindB_le (aft a.1 i j); omega)) (by first | omega | (have := kindB_le (aft a.1 i j); omega)) (fun c51 => ?_) (fun c51 => ?_)
          · refine x_aload_n C dX5_refutation_56 rfl ?_
            refine x_getfield C qk5 0 (by decide) lfX5_12 dX5_refutation_57 rfl rfl ?_
            refine x_iload_n C dX5_refutation_60 rfl ?_
            refine x_iload_n C dX5_refutation_61 rfl ?_
            refine x_callV2i C (okX3_outlookBehind PosA_now ha.1 hi hj) lkX5_152 miX3_outlookBehind msX3_outlookBehind maX3_outlookBehind ⟨Nat.le_of_ble_eq_true rfl, Nat.le_of_ble_eq_true rfl⟩ (Nat.le_of_ble_eq_true rfl) rfl rfl dX5_refutation_62 ?_
            refine x_callS1i C (okX5_squaresIn _ _ _) lkX5_142 miX5_squaresIn mtX5_squaresIn maX5_squaresIn ⟨Nat.le_of_ble_eq_true rfl, Nat.le_of_ble_eq_true rfl⟩ (Nat.le_of_ble_eq_true rfl) dX5_refutation_65 ?_
            refine x_callS1i C (okX5_lowestIn _ _) lkX5_155 miX5_lowestIn mtX5_lowestIn maX5_lowestIn ⟨Nat.le_of_ble_eq_true rfl, Nat.le_of_ble_eq_true rfl⟩ (Nat.le_of_ble_eq_true rfl) dX5_refutation_68 ?_
            exact x_iret E .int dX5_refutation_71 rfl rfl (by unfold refuF; rw [if_neg (by rw [c23]; decide), if_pos ⟨c38, c51⟩]) rfl
          · refine x_iconst C (v := (-1)) dX5_refutation_54 (by decide +kernel) ?_
            exact x_iret E .int dX5_refutation_55 rfl rfl (by unfold refuF; rw [if_neg (by rw [c23]; decide), if_neg (fun q => c51 q.2)]) rfl
      · refine x_bipush C (v := (-4)) dX5_refutation_26 (by decide +kernel) ?_
        exact x_iret E .int dX5_refutation_28 rfl rfl (by unfold refuF; rw [if_pos c23]) rfl
    · cases c11
set_option maxHeartbeats 4000000 in
set_option maxRecDepth 100000 in
theorem okX5_many_out {a b c d : qP} {Hs : qHs} {T : qTs} {L : qLs} {S : qSs} {V : qVs} {ms : qms} {mr : qmr} {mm : qmm} {ml : qml} {mt : qmt} {x : Int32} (hx : x < 0 ∨ nI 4 ≤ x) : Ok MX5_many [.ref 0, .int x] (HH (a, b, c, d) Hs T L S V ms mr mm ml mt) (some (.int (-2))) (HH (a, b, c, d) Hs T L S V ms mr mm ml mt) := by
  refine ok_of (by decide +kernel) (Nat.zero_le _) (Nat.le_of_ble_eq_true rfl) ?_
  intro X C E
  show Ex X MX5_many 0 [(0, .ref 0), (1, .int x)] [] (HH (a, b, c, d) Hs T L S V ms mr mm ml mt)
  refine x_iload_n C dX5_many_0 rfl ?_
  refine x_if_lt C 9 dX5_many_1 (by decide) (fun c1 => ?_) (fun c1 => ?_)
  · refine x_bipush C (v := (-2)) dX5_many_9 (by decide +kernel) ?_
    exact x_iret E .int dX5_many_11 rfl rfl rfl rfl
  · refine x_iload_n C dX5_many_4 rfl ?_
    refine x_iconst C (v := nI 4) dX5_many_5 (by decide +kernel) ?_
    refine x_icmp_lt C 12 dX5_many_6 (by decide) (fun c6 => ?_) (fun c6 => ?_)
    · exact absurd hx (fun q => q.elim c1 (fun z => absurd c6 (Int32.not_lt.mpr z)))
    · refine x_bipush C (v := (-2)) dX5_many_9 (by decide +kernel) ?_
      exact x_iret E .int dX5_many_11 rfl rfl rfl rfl
set_option maxHeartbeats 4000000 in
set_option maxRecDepth 100000 in
theorem okX5_many_p0 {a b c d : qP} {Hs : qHs} {T : qTs} {L : qLs} {S : qSs} {V : qVs} {ms : qms} {mr : qmr} {mm : qmm} {ml : qml} {mt : qmt} (ha : Bd a.1) {k : Nat} (hk : k ≤ 3) (hf : fitsB a.1 = false) : Ok MX5_many [.ref 0, .int (nI k)] (HH (a, b, c, d) Hs T L S V ms mr mm ml mt) (some (.int (-4))) (HH (a, b, c, d) Hs T L S V ms mr mm ml mt) := by
  refine ok_of (by decide +kernel) (Nat.zero_le _) (Nat.le_of_ble_eq_true rfl) ?_
  intro X C E
  show Ex X MX5_many 0 [(0, .ref 0), (1, .int (nI k))] [] (HH (a, b, c, d) Hs T L S V ms mr mm ml mt)
  refine x_iload_n C dX5_many_0 rfl ?_
  refine x_if_ltN C 9 dX5_many_1 (by decide) (by omega) ?_
  refine x_iload_n C dX5_many_4 rfl ?_
  refine x_iconst C (v := nI 4) dX5_many_5 (by decide +kernel) ?_
  refine x_icmp_ltN C 12 dX5_many_6 (by decide) (by omega) (by omega) (fun c6 => ?_) (fun c6 => ?_)
  · refine x_aload_n C dX5_many_12 rfl ?_
    refine x_getfield C qk5 0 (by decide) lfX5_12 dX5_many_13 rfl rfl ?_
    refine x_callV0i C (okX3_fits PosA_now ha.1) lkX5_117 miX3_fits msX3_fits maX3_fits ⟨Nat.le_of_ble_eq_true rfl, Nat.le_of_ble_eq_true rfl⟩ (Nat.le_of_ble_eq_true rfl) rfl rfl dX5_many_16 ?_
    rw [hf]
    refine x_if_neB C 25 dX5_many_19 (by decide) (fun c19 => ?_) (fun c19 => ?_)
    · cases c19
    · refine x_bipush C (v := (-4)) dX5_many_22 (by decide +kernel) ?_
      exact x_iret E .int dX5_many_24 rfl rfl rfl rfl
  · omega
set_option maxHeartbeats 4000000 in
set_option maxRecDepth 100000 in
theorem okX5_many_p1 {a b c d : qP} {Hs : qHs} {L : qLs} {S : qSs} {V : qVs} {ms : qms} {mr : qmr} {mm : qmm} {ml : qml} {mt : qmt} {Tm Tk : Nat → Int32} {ta mc : Nat → Nat} (ha : Bd a.1) {k : Nat} (hk : k ≤ 3) (hf : fitsB a.1 = true) : Ok MX5_many [.ref 0, .int (nI k)] (HH (a, b, c, d) Hs (Tm, Tk, ta, mc) L S V ms mr mm ml mt) (some (.int (nI (tlO a.1 25 (zt ta 4) k)))) (HH (a, b, c, d) Hs (Tm, Tk, tlO a.1 25 (zt ta 4), mc) L S V ms mr mm ml mt) := by
  refine ok_of (by decide +kernel) (Nat.zero_le _) (Nat.le_of_ble_eq_true rfl) ?_
  intro X C E
  show Ex X MX5_many 0 [(0, .ref 0), (1, .int (nI k))] [] (HH (a, b, c, d) Hs (Tm, Tk, ta, mc) L S V ms mr mm ml mt)
  refine x_iload_n C dX5_many_0 rfl ?_
  refine x_if_ltN C 9 dX5_many_1 (by decide) (by omega) ?_
  refine x_iload_n C dX5_many_4 rfl ?_
  refine x_iconst C (v := nI 4) dX5_many_5 (by decide +kernel) ?_
  refine x_icmp_ltN C 12 dX5_many_6 (by decide) (by omega) (by omega) (fun c6 => ?_) (fun c6 => ?_)
  · refine x_aload_n C dX5_many_12 rfl ?_
    refine x_getfield C qk5 0 (by decide) lfX5_12 dX5_many_13 rfl rfl ?_
    refine x_callV0i C (okX3_fits PosA_now ha.1) lkX5_117 miX3_fits msX3_fits maX3_fits ⟨Nat.le_of_ble_eq_true rfl, Nat.le_of_ble_eq_true rfl⟩ (Nat.le_of_ble_eq_true rfl) rfl rfl dX5_many_16 ?_
    rw [hf]
    refine x_if_neB C 25 dX5_many_19 (by decide) (fun c19 => ?_) (fun c19 => ?_)
    · refine x_aload_n C dX5_many_25 rfl ?_
      refine x_callV0v C (okX5_fillTally ha.1) lkX5_158 miX5_fillTally msX5_fillTally maX5_fillTally ⟨Nat.le_of_ble_eq_true rfl, Nat.le_of_ble_eq_true rfl⟩ (Nat.le_of_ble_eq_true rfl) rfl rfl dX5_many_26 ?_
      refine x_aload_n C dX5_many_29 rfl ?_
      refine x_getfield C qk5 8 (by decide) lfX5_42 dX5_many_30 rfl rfl ?_
      refine x_iload_n C dX5_many_33 rfl ?_
      refine x_iald C dX5_many_34 rfl (by omega) (by decide) ?_
      exact x_iret E .int dX5_many_35 rfl rfl rfl rfl
    · cases c19
  · omega
set_option maxHeartbeats 4000000 in
set_option maxRecDepth 100000 in
theorem okX5_duals_p0 {a b c d : qP} {Hs : qHs} {T : qTs} {L : qLs} {S : qSs} {V : qVs} {ms : qms} {mr : qmr} {mm : qmm} {ml : qml} {mt : qmt} (ha : Bd a.1) (hf : fitsB a.1 = false) : Ok MX5_duals [.ref 0] (HH (a, b, c, d) Hs T L S V ms mr mm ml mt) (some (.int (-4))) (HH (a, b, c, d) Hs T L S V ms mr mm ml mt) := by
  refine ok_of (by decide +kernel) (Nat.zero_le _) (Nat.le_of_ble_eq_true rfl) ?_
  intro X C E
  show Ex X MX5_duals 0 [(0, .ref 0)] [] (HH (a, b, c, d) Hs T L S V ms mr mm ml mt)
  refine x_aload_n C dX5_duals_0 rfl ?_
  refine x_getfield C qk5 0 (by decide) lfX5_12 dX5_duals_1 rfl rfl ?_
  refine x_callV0i C (okX3_fits PosA_now ha.1) lkX5_117 miX3_fits msX3_fits maX3_fits ⟨Nat.le_of_ble_eq_true rfl, Nat.le_of_ble_eq_true rfl⟩ (Nat.le_of_ble_eq_true rfl) rfl rfl dX5_duals_4 ?_
  rw [hf]
  refine x_if_neB C 13 dX5_duals_7 (by decide) (fun c7 => ?_) (fun c7 => ?_)
  · cases c7
  · refine x_bipush C (v := (-4)) dX5_duals_10 (by decide +kernel) ?_
    exact x_iret E .int dX5_duals_12 rfl rfl rfl rfl
set_option maxHeartbeats 4000000 in
set_option maxRecDepth 100000 in
theorem okX5_duals_p1 {a b c d : qP} {Hs : qHs} {L : qLs} {S : qSs} {V : qVs} {ms : qms} {mr : qmr} {mm : qmm} {ml : qml} {mt : qmt} {Tm Tk : Nat → Int32} {ta mc : Nat → Nat} (ha : Bd a.1) (hf : fitsB a.1 = true) : Ok MX5_duals [.ref 0] (HH (a, b, c, d) Hs (Tm, Tk, ta, mc) L S V ms mr mm ml mt) (some (.int (nI (sumc (keyP a.1) 25 - 1)))) (HH (a, b, c, d) Hs (Tm, tkF a.1 Tk, ta, mc) L S V ms mr mm ml mt) := by
  refine ok_of (by decide +kernel) (Nat.zero_le _) (Nat.le_of_ble_eq_true rfl) ?_
  intro X C E
  show Ex X MX5_duals 0 [(0, .ref 0)] [] (HH (a, b, c, d) Hs (Tm, Tk, ta, mc) L S V ms mr mm ml mt)
  have hsm := sumc_le (keyP a.1) 25
  refine x_aload_n C dX5_duals_0 rfl ?_
  refine x_getfield C qk5 0 (by decide) lfX5_12 dX5_duals_1 rfl rfl ?_
  refine x_callV0i C (okX3_fits PosA_now ha.1) lkX5_117 miX3_fits msX3_fits maX3_fits ⟨Nat.le_of_ble_eq_true rfl, Nat.le_of_ble_eq_true rfl⟩ (Nat.le_of_ble_eq_true rfl) rfl rfl dX5_duals_4 ?_
  rw [hf]
  refine x_if_neB C 13 dX5_duals_7 (by decide) (fun c7 => ?_) (fun c7 => ?_)
  · refine x_aload_n C dX5_duals_13 rfl ?_
    refine x_getfield C qk5 7 (by decide) lfX5_39 dX5_duals_14 rfl rfl ?_
    refine x_aload_n C dX5_duals_17 rfl ?_
    refine x_getfield C qk5 0 (by decide) lfX5_12 dX5_duals_18 rfl rfl ?_
    refine x_callV1v C (okX2_fillWithKeys TabA_k PosA_now ha.1 (by decide) (by decide)) lkX5_124 miX2_fillWithKeys msX2_fillWithKeys maX2_fillWithKeys ⟨Nat.le_of_ble_eq_true rfl, Nat.le_of_ble_eq_true rfl⟩ (Nat.le_of_ble_eq_true rfl) rfl rfl dX5_duals_21 ?_
    refine x_heap (h2 := HH (a, b, c, d) Hs (Tm, tkF a.1 Tk, ta, mc) L S V ms mr mm ml mt) (by rfl) ?_
    refine x_aload_n C dX5_duals_24 rfl ?_
    refine x_getfield C qk5 7 (by decide) lfX5_39 dX5_duals_25 rfl rfl ?_
    refine x_callV0i C (okX2_count TabA_k (keyP a.1) (tkF_at a.1 Tk)) lkX5_161 miX2_count msX2_count maX2_count ⟨Nat.le_of_ble_eq_true rfl, Nat.le_of_ble_eq_true rfl⟩ (Nat.le_of_ble_eq_true rfl) rfl rfl dX5_duals_28 ?_
    refine x_istore_n C dX5_duals_31 (by decide) [(1, _), (0, _)] rfl ?_
    refine x_iload_n C dX5_duals_32 rfl ?_
    refine x_if_leN C 42 dX5_duals_33 (by decide) (by omega) (fun c33 => ?_) (fun c33 => ?_)
    · refine x_iconst C (v := nI 0) dX5_duals_42 (by decide +kernel) ?_
      exact x_iret E .int dX5_duals_43 rfl rfl (by rw [c33]) rfl
    · refine x_iload_n C dX5_duals_36 rfl ?_
      refine x_iconst C (v := nI 1) dX5_duals_37 (by decide +kernel) ?_
      refine x_isubN C dX5_duals_38 (by omega) ?_
      refine x_goto C 43 dX5_duals_39 (by decide) ?_
      exact x_iret E .int dX5_duals_43 rfl rfl rfl rfl
  · cases c7
