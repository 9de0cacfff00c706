/-! the class's calls, further -/

set_option maxHeartbeats 4000000 in
set_option maxRecDepth 100000 in
theorem okX5_would_p0 {a b c d : qP} {Hs : qHs} {T : qTs} {L : qLs} {S : qSs} {V : qVs} {ms : qms} {mr : qmr} {mm : qmm} {ml : qml} {mt : qmt} (x : Int32) {y : Int32} (hy : isSq y = false) : Ok MX5_would [.ref 0, .int x, .int y] (HH (a, b, c, d) Hs T L S V ms mr mm ml mt) (some (.int (-1))) (HH (a, b, c, d) Hs T L S V ms mr mm ml mt) := by
  refine ok_of (by decide +kernel) (Nat.zero_le _) (Nat.le_of_ble_eq_true rfl) ?_
  intro X C E
  show Ex X MX5_would 0 [(0, .ref 0), (1, .int x), (2, .int y)] [] (HH (a, b, c, d) Hs T L S V ms mr mm ml mt)
  refine x_iload_n C dX5_would_0 rfl ?_
  refine x_callS1i C (okX5_isSquare _ _) lkX5_95 miX5_isSquare mtX5_isSquare maX5_isSquare ⟨Nat.le_of_ble_eq_true rfl, Nat.le_of_ble_eq_true rfl⟩ (Nat.le_of_ble_eq_true rfl) dX5_would_1 ?_
  rw [hy]
  refine x_if_eqB C 21 dX5_would_4 (by decide) (fun c4 => ?_) (fun c4 => ?_)
  · refine x_iconst C (v := (-1)) dX5_would_21 (by decide +kernel) ?_
    exact x_iret E .int dX5_would_22 rfl rfl rfl rfl
  · cases c4
set_option maxHeartbeats 4000000 in
set_option maxRecDepth 100000 in
theorem okX5_would_p1 {a b c d : qP} {Hs : qHs} {T : qTs} {L : qLs} {S : qSs} {V : qVs} {ms : qms} {mr : qmr} {mm : qmm} {ml : qml} {mt : qmt} (ha : Bd a.1) (x : Int32) {i : Nat} (hi : i < 25) (hk : isK (a.1 i) = true) : Ok MX5_would [.ref 0, .int x, .int (nI i)] (HH (a, b, c, d) Hs T L S V ms mr mm ml mt) (some (.int (-1))) (HH (a, b, c, d) Hs T L S V ms mr mm ml mt) := by
  refine ok_of (by decide +kernel) (Nat.zero_le _) (Nat.le_of_ble_eq_true rfl) ?_
  intro X C E
  show Ex X MX5_would 0 [(0, .ref 0), (1, .int x), (2, .int (nI i))] [] (HH (a, b, c, d) Hs T L S V ms mr mm ml mt)
  have hai := ha.1 i
  refine x_iload_n C dX5_would_0 rfl ?_
  refine x_callS1i C (okX5_isSquare _ _) lkX5_95 miX5_isSquare mtX5_isSquare maX5_isSquare ⟨Nat.le_of_ble_eq_true rfl, Nat.le_of_ble_eq_true rfl⟩ (Nat.le_of_ble_eq_true rfl) dX5_would_1 ?_
  rw [isSq_nI (by omega), decide_eq_true hi]
  refine x_if_eqB C 21 dX5_would_4 (by decide) (fun c4 => ?_) (fun c4 => ?_)
  · cases c4
  · refine x_aload_n C dX5_would_7 rfl ?_
    refine x_getfield C qk5 0 (by decide) lfX5_12 dX5_would_8 rfl rfl ?_
    refine x_iload_n C dX5_would_11 rfl ?_
    refine x_callV1i C (okX3_manOn PosA_now hi) lkX5_99 miX3_manOn msX3_manOn maX3_manOn ⟨Nat.le_of_ble_eq_true rfl, Nat.le_of_ble_eq_true rfl⟩ (Nat.le_of_ble_eq_true rfl) rfl rfl dX5_would_12 ?_
    refine x_callS1i C (okX5_isKing _ (by omega) _) lkX5_164 miX5_isKing mtX5_isKing maX5_isKing ⟨Nat.le_of_ble_eq_true rfl, Nat.le_of_ble_eq_true rfl⟩ (Nat.le_of_ble_eq_true rfl) dX5_would_15 ?_
    refine x_if_eqB C 23 dX5_would_18 (by decide) (fun c18 => ?_) (fun c18 => ?_)
    · rw [hk] at c18; cases c18
    · refine x_iconst C (v := (-1)) dX5_would_21 (by decide +kernel) ?_
      exact x_iret E .int dX5_would_22 rfl rfl rfl rfl
set_option maxHeartbeats 4000000 in
set_option maxRecDepth 100000 in
theorem okX5_would_p2 {a b c d : qP} {Hs : qHs} {T : qTs} {L : qLs} {S : qSs} {V : qVs} {ms : qms} {mr : qmr} {mm : qmm} {ml : qml} {mt : qmt} (ha : Bd a.1) {x : Int32} (hx : x < 0 ∨ nI 6 < x) {i : Nat} (hi : i < 25) (hk : isK (a.1 i) = false) : Ok MX5_would [.ref 0, .int x, .int (nI i)] (HH (a, b, c, d) Hs T L S V ms mr mm ml mt) (some (.int (-2))) (HH (a, b, c, d) Hs T L S V ms mr mm ml mt) := by
  refine ok_of (by decide +kernel) (Nat.zero_le _) (Nat.le_of_ble_eq_true rfl) ?_
  intro X C E
  show Ex X MX5_would 0 [(0, .ref 0), (1, .int x), (2, .int (nI i))] [] (HH (a, b, c, d) Hs T L S V ms mr mm ml mt)
  have hai := ha.1 i
  refine x_iload_n C dX5_would_0 rfl ?_
  refine x_callS1i C (okX5_isSquare _ _) lkX5_95 miX5_isSquare mtX5_isSquare maX5_isSquare ⟨Nat.le_of_ble_eq_true rfl, Nat.le_of_ble_eq_true rfl⟩ (Nat.le_of_ble_eq_true rfl) dX5_would_1 ?_
  rw [isSq_nI (by omega), decide_eq_true hi]
  refine x_if_eqB C 21 dX5_would_4 (by decide) (fun c4 => ?_) (fun c4 => ?_)
  · cases c4
  · refine x_aload_n C dX5_would_7 rfl ?_
    refine x_getfield C qk5 0 (by decide) lfX5_12 dX5_would_8 rfl rfl ?_
    refine x_iload_n C dX5_would_11 rfl ?_
    refine x_callV1i C (okX3_manOn PosA_now hi) lkX5_99 miX3_manOn msX3_manOn maX3_manOn ⟨Nat.le_of_ble_eq_true rfl, Nat.le_of_ble_eq_true rfl⟩ (Nat.le_of_ble_eq_true rfl) rfl rfl dX5_would_12 ?_
    refine x_callS1i C (okX5_isKing _ (by omega) _) lkX5_164 miX5_isKing mtX5_isKing maX5_isKing ⟨Nat.le_of_ble_eq_true rfl, Nat.le_of_ble_eq_true rfl⟩ (Nat.le_of_ble_eq_true rfl) dX5_would_15 ?_
    refine x_if_eqB C 23 dX5_would_18 (by decide) (fun c18 => ?_) (fun c18 => ?_)
    · refine x_iload_n C dX5_would_23 rfl ?_
      refine x_if_lt C 33 dX5_would_24 (by decide) (fun c24 => ?_) (fun c24 => ?_)
      · refine x_bipush C (v := (-2)) dX5_would_33 (by decide +kernel) ?_
        exact x_iret E .int dX5_would_35 rfl rfl rfl rfl
      · refine x_iload_n C dX5_would_27 rfl ?_
        refine x_bipush C (v := nI 6) dX5_would_28 (by decide +kernel) ?_
        refine x_icmp_le C 36 dX5_would_30 (by decide) (fun c30 => ?_) (fun c30 => ?_)
        · exact absurd hx (fun q => q.elim c24 (fun z => absurd c30 (Int32.not_le.mpr z)))
        · refine x_bipush C (v := (-2)) dX5_would_33 (by decide +kernel) ?_
          exact x_iret E .int dX5_would_35 rfl rfl rfl rfl
    · rw [hk] at c18; cases c18
set_option maxHeartbeats 4000000 in
set_option maxRecDepth 100000 in
theorem okX5_would_p3 {a b c d : qP} {Hs : qHs} {T : qTs} {L : qLs} {S : qSs} {V : qVs} {ms : qms} {mr : qmr} {mm : qmm} {ml : qml} {mt : qmt} (ha : Bd a.1) {i : Nat} (hi : i < 25) (hk : isK (a.1 i) = false) (hl : loc7 a.1 1 ≠ none) : Ok MX5_would [.ref 0, .int (nI 1), .int (nI i)] (HH (a, b, c, d) Hs T L S V ms mr mm ml mt) (some (.int (-2))) (HH (a, b, c, d) Hs T L S V ms mr mm ml mt) := by
  refine ok_of (by decide +kernel) (Nat.zero_le _) (Nat.le_of_ble_eq_true rfl) ?_
  intro X C E
  show Ex X MX5_would 0 [(0, .ref 0), (1, .int (nI 1)), (2, .int (nI i))] [] (HH (a, b, c, d) Hs T L S V ms mr mm ml mt)
  have hai := ha.1 i
  refine x_iload_n C dX5_would_0 rfl ?_
  refine x_callS1i C (okX5_isSquare _ _) lkX5_95 miX5_isSquare mtX5_isSquare maX5_isSquare ⟨Nat.le_of_ble_eq_true rfl, Nat.le_of_ble_eq_true rfl⟩ (Nat.le_of_ble_eq_true rfl) dX5_would_1 ?_
  rw [isSq_nI (by omega), decide_eq_true hi]
  refine x_if_eqB C 21 dX5_would_4 (by decide) (fun c4 => ?_) (fun c4 => ?_)
  · cases c4
  · refine x_aload_n C dX5_would_7 rfl ?_
    refine x_getfield C qk5 0 (by decide) lfX5_12 dX5_would_8 rfl rfl ?_
    refine x_iload_n C dX5_would_11 rfl ?_
    refine x_callV1i C (okX3_manOn PosA_now hi) lkX5_99 miX3_manOn msX3_manOn maX3_manOn ⟨Nat.le_of_ble_eq_true rfl, Nat.le_of_ble_eq_true rfl⟩ (Nat.le_of_ble_eq_true rfl) rfl rfl dX5_would_12 ?_
    refine x_callS1i C (okX5_isKing _ (by omega) _) lkX5_164 miX5_isKing mtX5_isKing maX5_isKing ⟨Nat.le_of_ble_eq_true rfl, Nat.le_of_ble_eq_true rfl⟩ (Nat.le_of_ble_eq_true rfl) dX5_would_15 ?_
    refine x_if_eqB C 23 dX5_would_18 (by decide) (fun c18 => ?_) (fun c18 => ?_)
    · refine x_iload_n C dX5_would_23 rfl ?_
      refine x_if_ltN C 33 dX5_would_24 (by decide) (by omega) ?_
      refine x_iload_n C dX5_would_27 rfl ?_
      refine x_bipush C (v := nI 6) dX5_would_28 (by decide +kernel) ?_
      refine x_icmp_leN C 36 dX5_would_30 (by decide) (by omega) (by omega) (fun c30 => ?_) (fun c30 => ?_)
      · refine x_iload_n C dX5_would_36 rfl ?_
        refine x_iconst C (v := nI 1) dX5_would_37 (by decide +kernel) ?_
        refine x_icmp_neN C 55 dX5_would_38 (by decide) (by omega) (by omega) (fun c38 => ?_) (fun c38 => ?_)
        · exact absurd rfl c38
        · refine x_aload_n C dX5_would_41 rfl ?_
          refine x_getfield C qk5 0 (by decide) lfX5_12 dX5_would_42 rfl rfl ?_
          refine x_iconst C (v := nI 1) dX5_would_45 (by decide +kernel) ?_
          refine x_callV1i C (okX3_squareOf PosA_now ha.1 1 (by decide)) lkX5_136 miX3_squareOf msX3_squareOf maX3_squareOf ⟨Nat.le_of_ble_eq_true rfl, Nat.le_of_ble_eq_true rfl⟩ (Nat.le_of_ble_eq_true rfl) rfl rfl dX5_would_46 ?_
          refine x_if_lt C 55 dX5_would_49 (by decide) (fun c49 => ?_) (fun c49 => ?_)
          · exact absurd (sqI_neg7.mp c49) hl
          · refine x_bipush C (v := (-2)) dX5_would_52 (by decide +kernel) ?_
            exact x_iret E .int dX5_would_54 rfl rfl rfl rfl
      · omega
    · rw [hk] at c18; cases c18
set_option maxHeartbeats 4000000 in
set_option maxRecDepth 100000 in
theorem okX5_would_p4 {a b c d : qP} {Hs : qHs} {L : qLs} {S : qSs} {V : qVs} {ms : qms} {mr : qmr} {mm : qmm} {ml : qml} {mt : qmt} {Tm Tk : Nat → Int32} {ta mc : Nat → Nat} (ha : Bd a.1) (hc : Bd c.1) {k i : Nat} (hk6 : k ≤ 6) (hi : i < 25) (hkk : isK (a.1 i) = false) (hl : k = 1 → loc7 a.1 1 = none) (hf : fitsB (up a.1 i k) = false) : Ok MX5_would [.ref 0, .int (nI k), .int (nI i)] (HH (a, b, c, d) Hs (Tm, Tk, ta, mc) L S V ms mr mm ml mt) (some (.int (-4))) (HH (a, b, (up a.1 i k, a.2), d) Hs (Tm, Tk, ta, mc) L S V ms mr mm ml mt) := by
  refine ok_of (by decide +kernel) (Nat.zero_le _) (Nat.le_of_ble_eq_true rfl) ?_
  intro X C E
  show Ex X MX5_would 0 [(0, .ref 0), (1, .int (nI k)), (2, .int (nI i))] [] (HH (a, b, c, d) Hs (Tm, Tk, ta, mc) L S V ms mr mm ml mt)
  have hai := ha.1 i
  have hb1 := up_lt ha.1 (k := i) (v := k) (by omega)
  refine x_iload_n C dX5_would_0 rfl ?_
  refine x_callS1i C (okX5_isSquare _ _) lkX5_95 miX5_isSquare mtX5_isSquare maX5_isSquare ⟨Nat.le_of_ble_eq_true rfl, Nat.le_of_ble_eq_true rfl⟩ (Nat.le_of_ble_eq_true rfl) dX5_would_1 ?_
  rw [isSq_nI (by omega), decide_eq_true hi]
  refine x_if_eqB C 21 dX5_would_4 (by decide) (fun c4 => ?_) (fun c4 => ?_)
  · cases c4
  · refine x_aload_n C dX5_would_7 rfl ?_
    refine x_getfield C qk5 0 (by decide) lfX5_12 dX5_would_8 rfl rfl ?_
    refine x_iload_n C dX5_would_11 rfl ?_
    refine x_callV1i C (okX3_manOn PosA_now hi) lkX5_99 miX3_manOn msX3_manOn maX3_manOn ⟨Nat.le_of_ble_eq_true rfl, Nat.le_of_ble_eq_true rfl⟩ (Nat.le_of_ble_eq_true rfl) rfl rfl dX5_would_12 ?_
    refine x_callS1i C (okX5_isKing _ (by omega) _) lkX5_164 miX5_isKing mtX5_isKing maX5_isKing ⟨Nat.le_of_ble_eq_true rfl, Nat.le_of_ble_eq_true rfl⟩ (Nat.le_of_ble_eq_true rfl) dX5_would_15 ?_
    refine x_if_eqB C 23 dX5_would_18 (by decide) (fun c18 => ?_) (fun c18 => ?_)
    · refine x_iload_n C dX5_would_23 rfl ?_
      refine x_if_ltN C 33 dX5_would_24 (by decide) (by omega) ?_
      refine x_iload_n C dX5_would_27 rfl ?_
      refine x_bipush C (v := nI 6) dX5_would_28 (by decide +kernel) ?_
      refine x_icmp_leN C 36 dX5_would_30 (by decide) (by omega) (by omega) (fun c30 => ?_) (fun c30 => ?_)
      · refine x_iload_n C dX5_would_36 rfl ?_
        refine x_iconst C (v := nI 1) dX5_would_37 (by decide +kernel) ?_
        refine x_icmp_neN C 55 dX5_would_38 (by decide) (by omega) (by omega) (fun c38 => ?_) (fun c38 => ?_)
        · refine x_aload_n C dX5_would_55 rfl ?_
          refine x_getfield C qk5 2 (by decide) lfX5_19 dX5_would_56 rfl rfl ?_
          refine x_aload_n C dX5_would_59 rfl ?_
          refine x_getfield C qk5 0 (by decide) lfX5_12 dX5_would_60 rfl rfl ?_
          refine x_callV1v C (okX3_copyFrom PosF_trial PosF_now hc ha (by decide) (by decide) (by decide)) lkX5_67 miX3_copyFrom msX3_copyFrom maX3_copyFrom ⟨Nat.le_of_ble_eq_true rfl, Nat.le_of_ble_eq_true rfl⟩ (Nat.le_of_ble_eq_true rfl) rfl rfl dX5_would_63 ?_
          refine x_heap (h2 := HH (a, b, a, d) Hs (Tm, Tk, ta, mc) L S V ms mr mm ml mt) (by rfl) ?_
          refine x_aload_n C dX5_would_66 rfl ?_
          refine x_getfield C qk5 2 (by decide) lfX5_19 dX5_would_67 rfl rfl ?_
          refine x_iload_n C dX5_would_70 rfl ?_
          refine x_iload_n C dX5_would_71 rfl ?_
          refine x_callV2v C (okX3_setMan PosA_trial hi k) lkX5_167 miX3_setMan msX3_setMan maX3_setMan ⟨Nat.le_of_ble_eq_true rfl, Nat.le_of_ble_eq_true rfl⟩ (Nat.le_of_ble_eq_true rfl) rfl rfl dX5_would_72 ?_
          refine x_heap (h2 := HH (a, b, (up a.1 i k, a.2), d) Hs (Tm, Tk, ta, mc) L S V ms mr mm ml mt) (by rfl) ?_
          refine x_aload_n C dX5_would_75 rfl ?_
          refine x_getfield C qk5 2 (by decide) lfX5_19 dX5_would_76 rfl rfl ?_
          refine x_callV0i C (okX3_fits (b := up a.1 i k) PosA_trial hb1) lkX5_117 miX3_fits msX3_fits maX3_fits ⟨Nat.le_of_ble_eq_true rfl, Nat.le_of_ble_eq_true rfl⟩ (Nat.le_of_ble_eq_true rfl) rfl rfl dX5_would_79 ?_
          refine x_if_neB C 88 dX5_would_82 (by decide) (fun c82 => ?_) (fun c82 => ?_)
          · rw [hf] at c82; cases c82
          · refine x_bipush C (v := (-4)) dX5_would_85 (by decide +kernel) ?_
            exact x_iret E .int dX5_would_87 rfl rfl rfl rfl
        · refine x_aload_n C dX5_would_41 rfl ?_
          refine x_getfield C qk5 0 (by decide) lfX5_12 dX5_would_42 rfl rfl ?_
          refine x_iconst C (v := nI 1) dX5_would_45 (by decide +kernel) ?_
          refine x_callV1i C (okX3_squareOf PosA_now ha.1 1 (by decide)) lkX5_136 miX3_squareOf msX3_squareOf maX3_squareOf ⟨Nat.le_of_ble_eq_true rfl, Nat.le_of_ble_eq_true rfl⟩ (Nat.le_of_ble_eq_true rfl) rfl rfl dX5_would_46 ?_
          refine x_if_lt C 55 dX5_would_49 (by decide) (fun c49 => ?_) (fun c49 => ?_)
          · refine x_aload_n C dX5_would_55 rfl ?_
            refine x_getfield C qk5 2 (by decide) lfX5_19 dX5_would_56 rfl rfl ?_
            refine x_aload_n C dX5_would_59 rfl ?_
            refine x_getfield C qk5 0 (by decide) lfX5_12 dX5_would_60 rfl rfl ?_
            refine x_callV1v C (okX3_copyFrom PosF_trial PosF_now hc ha (by decide) (by decide) (by decide)) lkX5_67 miX3_copyFrom msX3_copyFrom maX3_copyFrom ⟨Nat.le_of_ble_eq_true rfl, Nat.le_of_ble_eq_true rfl⟩ (Nat.le_of_ble_eq_true rfl) rfl rfl dX5_would_63 ?_
            refine x_heap (h2 := HH (a, b, a, d) Hs (Tm, Tk, ta, mc) L S V ms mr mm ml mt) (by rfl) ?_
            refine x_aload_n C dX5_would_66 rfl ?_
            refine x_getfield C qk5 2 (by decide) lfX5_19 dX5_would_67 rfl rfl ?_
            refine x_iload_n C dX5_would_70 rfl ?_
            refine x_iload_n C dX5_would_71 rfl ?_
            refine x_callV2v C (okX3_setMan PosA_trial hi k) lkX5_167 miX3_setMan msX3_setMan maX3_setMan ⟨Nat.le_of_ble_eq_true rfl, Nat.le_of_ble_eq_true rfl⟩ (Nat.le_of_ble_eq_true rfl) rfl rfl dX5_would_72 ?_
            refine x_heap (h2 := HH (a, b, (up a.1 i k, a.2), d) Hs (Tm, Tk, ta, mc) L S V ms mr mm ml mt) (by rfl) ?_
            refine x_aload_n C dX5_would_75 rfl ?_
            refine x_getfield C qk5 2 (by decide) lfX5_19 dX5_would_76 rfl rfl ?_
            refine x_callV0i C (okX3_fits (b := up a.1 i k) PosA_trial hb1) lkX5_117 miX3_fits msX3_fits maX3_fits ⟨Nat.le_of_ble_eq_true rfl, Nat.le_of_ble_eq_true rfl⟩ (Nat.le_of_ble_eq_true rfl) rfl rfl dX5_would_79 ?_
            refine x_if_neB C 88 dX5_would_82 (by decide) (fun c82 => ?_) (fun c82 => ?_)
            · rw [hf] at c82; cases c82
            · refine x_bipush C (v := (-4)) dX5_would_85 (by decide +kernel) ?_
              exact x_iret E .int dX5_would_87 rfl rfl rfl rfl
          · exact absurd (sqI_neg7.mpr (hl c38)) c49
      · omega
    · rw [hkk] at c18; cases c18
set_option maxHeartbeats 4000000 in
set_option maxRecDepth 100000 in
theorem okX5_would_p5 {a b c d : qP} {Hs : qHs} {L : qLs} {S : qSs} {V : qVs} {ms : qms} {mr : qmr} {mm : qmm} {ml : qml} {mt : qmt} {Tm Tk : Nat → Int32} {ta mc : Nat → Nat} (ha : Bd a.1) (hc : Bd c.1) {k i : Nat} (hk6 : k ≤ 6) (hi : i < 25) (hkk : isK (a.1 i) = false) (hl : k = 1 → loc7 a.1 1 = none) (hf : fitsB (up a.1 i k) = true) : Ok MX5_would [.ref 0, .int (nI k), .int (nI i)] (HH (a, b, c, d) Hs (Tm, Tk, ta, mc) L S V ms mr mm ml mt) (some (.int (nI (sumc (keyP (up a.1 i k)) 25)))) (HH (a, b, (up a.1 i k, a.2), d) Hs (Tm, tkF (up a.1 i k) Tk, ta, mc) L S V ms mr mm ml mt) := by
  refine ok_of (by decide +kernel) (Nat.zero_le _) (Nat.le_of_ble_eq_true rfl) ?_
  intro X C E
  show Ex X MX5_would 0 [(0, .ref 0), (1, .int (nI k)), (2, .int (nI i))] [] (HH (a, b, c, d) Hs (Tm, Tk, ta, mc) L S V ms mr mm ml mt)
  have hai := ha.1 i
  have hb1 := up_lt ha.1 (k := i) (v := k) (by omega)
  refine x_iload_n C dX5_would_0 rfl ?_
  refine x_callS1i C (okX5_isSquare _ _) lkX5_95 miX5_isSquare mtX5_isSquare maX5_isSquare ⟨Nat.le_of_ble_eq_true rfl, Nat.le_of_ble_eq_true rfl⟩ (Nat.le_of_ble_eq_true rfl) dX5_would_1 ?_
  rw [isSq_nI (by omega), decide_eq_true hi]
  refine x_if_eqB C 21 dX5_would_4 (by decide) (fun c4 => ?_) (fun c4 => ?_)
  · cases c4
  · refine x_aload_n C dX5_would_7 rfl ?_
    refine x_getfield C qk5 0 (by decide) lfX5_12 dX5_would_8 rfl rfl ?_
    refine x_iload_n C dX5_would_11 rfl ?_
    refine x_callV1i C (okX3_manOn PosA_now hi) lkX5_99 miX3_manOn msX3_manOn maX3_manOn ⟨Nat.le_of_ble_eq_true rfl, Nat.le_of_ble_eq_true rfl⟩ (Nat.le_of_ble_eq_true rfl) rfl rfl dX5_would_12 ?_
    refine x_callS1i C (okX5_isKing _ (by omega) _) lkX5_164 miX5_isKing mtX5_isKing maX5_isKing ⟨Nat.le_of_ble_eq_true rfl, Nat.le_of_ble_eq_true rfl⟩ (Nat.le_of_ble_eq_true rfl) dX5_would_15 ?_
    refine x_if_eqB C 23 dX5_would_18 (by decide) (fun c18 => ?_) (fun c18 => ?_)
    · refine x_iload_n C dX5_would_23 rfl ?_
      refine x_if_ltN C 33 dX5_would_24 (by decide) (by omega) ?_
      refine x_iload_n C dX5_would_27 rfl ?_
      refine x_bipush C (v := nI 6) dX5_would_28 (by decide +kernel) ?_
      refine x_icmp_leN C 36 dX5_would_30 (by decide) (by omega) (by omega) (fun c30 => ?_) (fun c30 => ?_)
      · refine x_iload_n C dX5_would_36 rfl ?_
        refine x_iconst C (v := nI 1) dX5_would_37 (by decide +kernel) ?_
        refine x_icmp_neN C 55 dX5_would_38 (by decide) (by omega) (by omega) (fun c38 => ?_) (fun c38 => ?_)
        · refine x_aload_n C dX5_would_55 rfl ?_
          refine x_getfield C qk5 2 (by decide) lfX5_19 dX5_would_56 rfl rfl ?_
          refine x_aload_n C dX5_would_59 rfl ?_
          refine x_getfield C qk5 0 (by decide) lfX5_12 dX5_would_60 rfl rfl ?_
          refine x_callV1v C (okX3_copyFrom PosF_trial PosF_now hc ha (by decide) (by decide) (by decide)) lkX5_67 miX3_copyFrom msX3_copyFrom maX3_copyFrom ⟨Nat.le_of_ble_eq_true rfl, Nat.le_of_ble_eq_true rfl⟩ (Nat.le_of_ble_eq_true rfl) rfl rfl dX5_would_63 ?_
          refine x_heap (h2 := HH (a, b, a, d) Hs (Tm, Tk, ta, mc) L S V ms mr mm ml mt) (by rfl) ?_
          refine x_aload_n C dX5_would_66 rfl ?_
          refine x_getfield C qk5 2 (by decide) lfX5_19 dX5_would_67 rfl rfl ?_
          refine x_iload_n C dX5_would_70 rfl ?_
          refine x_iload_n C dX5_would_71 rfl ?_
          refine x_callV2v C (okX3_setMan PosA_trial hi k) lkX5_167 miX3_setMan msX3_setMan maX3_setMan ⟨Nat.le_of_ble_eq_true rfl, Nat.le_of_ble_eq_true rfl⟩ (Nat.le_of_ble_eq_true rfl) rfl rfl dX5_would_72 ?_
          refine x_heap (h2 := HH (a, b, (up a.1 i k, a.2), d) Hs (Tm, Tk, ta, mc) L S V ms mr mm ml mt) (by rfl) ?_
          refine x_aload_n C dX5_would_75 rfl ?_
          refine x_getfield C qk5 2 (by decide) lfX5_19 dX5_would_76 rfl rfl ?_
          refine x_callV0i C (okX3_fits (b := up a.1 i k) PosA_trial hb1) lkX5_117 miX3_fits msX3_fits maX3_fits ⟨Nat.le_of_ble_eq_true rfl, Nat.le_of_ble_eq_true rfl⟩ (Nat.le_of_ble_eq_true rfl) rfl rfl dX5_would_79 ?_
          refine x_if_neB C 88 dX5_would_82 (by decide) (fun c82 => ?_) (fun c82 => ?_)
          · refine x_aload_n C dX5_would_88 rfl ?_
            refine x_getfield C qk5 7 (by decide) lfX5_39 dX5_would_89 rfl rfl ?_
            refine x_aload_n C dX5_would_92 rfl ?_
            refine x_getfield C qk5 2 (by decide) lfX5_19 dX5_would_93 rfl rfl ?_
            refine x_callV1v C (okX2_fillWithKeys (b := up a.1 i k) TabA_k PosA_trial hb1 (by decide) (by decide)) lkX5_124 miX2_fillWithKeys msX2_fillWithKeys maX2_fillWithKeys ⟨Nat.le_of_ble_eq_true rfl, Nat.le_of_ble_eq_true rfl⟩ (Nat.le_of_ble_eq_true rfl) rfl rfl dX5_would_96 ?_
            refine x_heap (h2 := HH (a, b, (up a.1 i k, a.2), d) Hs (Tm, tkF (up a.1 i k) Tk, ta, mc) L S V ms mr mm ml mt) (by rfl) ?_
            refine x_aload_n C dX5_would_99 rfl ?_
            refine x_getfield C qk5 7 (by decide) lfX5_39 dX5_would_100 rfl rfl ?_
            refine x_callV0i C (okX2_count TabA_k (keyP (up a.1 i k)) (tkF_at (up a.1 i k) Tk)) lkX5_161 miX2_count msX2_count maX2_count ⟨Nat.le_of_ble_eq_true rfl, Nat.le_of_ble_eq_true rfl⟩ (Nat.le_of_ble_eq_true rfl) rfl rfl dX5_would_103 ?_
            exact x_iret E .int dX5_would_106 rfl rfl rfl rfl
          · rw [hf] at c82; cases c82
        · refine x_aload_n C dX5_would_41 rfl ?_
          refine x_getfield C qk5 0 (by decide) lfX5_12 dX5_would_42 rfl rfl ?_
          refine x_iconst C (v := nI 1) dX5_would_45 (by decide +kernel) ?_
          refine x_callV1i C (okX3_squareOf PosA_now ha.1 1 (by decide)) lkX5_136 miX3_squareOf msX3_squareOf maX3_squareOf ⟨Nat.le_of_ble_eq_true rfl, Nat.le_of_ble_eq_true rfl⟩ (Nat.le_of_ble_eq_true rfl) rfl rfl dX5_would_46 ?_
          refine x_if_lt C 55 dX5_would_49 (by decide) (fun c49 => ?_) (fun c49 => ?_)
          · refine x_aload_n C dX5_would_55 rfl ?_
            refine x_getfield C qk5 2 (by decide) lfX5_19 dX5_would_56 rfl rfl ?_
            refine x_aload_n C dX5_would_59 rfl ?_
            refine x_getfield C qk5 0 (by decide) lfX5_12 dX5_would_60 rfl rfl ?_
            refine x_callV1v C (okX3_copyFrom PosF_trial PosF_now hc ha (by decide) (by decide) (by decide)) lkX5_67 miX3_copyFrom msX3_copyFrom maX3_copyFrom ⟨Nat.le_of_ble_eq_true rfl, Nat.le_of_ble_eq_true rfl⟩ (Nat.le_of_ble_eq_true rfl) rfl rfl dX5_would_63 ?_
            refine x_heap (h2 := HH (a, b, a, d) Hs (Tm, Tk, ta, mc) L S V ms mr mm ml mt) (by rfl) ?_
            refine x_aload_n C dX5_would_66 rfl ?_
            refine x_getfield C qk5 2 (by decide) lfX5_19 dX5_would_67 rfl rfl ?_
            refine x_iload_n C dX5_would_70 rfl ?_
            refine x_iload_n C dX5_would_71 rfl ?_
            refine x_callV2v C (okX3_setMan PosA_trial hi k) lkX5_167 miX3_setMan msX3_setMan maX3_setMan ⟨Nat.le_of_ble_eq_true rfl, Nat.le_of_ble_eq_true rfl⟩ (Nat.le_of_ble_eq_true rfl) rfl rfl dX5_would_72 ?_
            refine x_heap (h2 := HH (a, b, (up a.1 i k, a.2), d) Hs (Tm, Tk, ta, mc) L S V ms mr mm ml mt) (by rfl) ?_
            refine x_aload_n C dX5_would_75 rfl ?_
            refine x_getfield C qk5 2 (by decide) lfX5_19 dX5_would_76 rfl rfl ?_
            refine x_callV0i C (okX3_fits (b := up a.1 i k) PosA_trial hb1) lkX5_117 miX3_fits msX3_fits maX3_fits ⟨Nat.le_of_ble_eq_true rfl, Nat.le_of_ble_eq_true rfl⟩ (Nat.le_of_ble_eq_true rfl) rfl rfl dX5_would_79 ?_
            refine x_if_neB C 88 dX5_would_82 (by decide) (fun c82 => ?_) (fun c82 => ?_)
            · refine x_aload_n C dX5_would_88 rfl ?_
              refine x_getfield C qk5 7 (by decide) lfX5_39 dX5_would_89 rfl rfl ?_
              refine x_aload_n C dX5_would_92 rfl ?_
              refine x_getfield C qk5 2 (by decide) lfX5_19 dX5_would_93 rfl rfl ?_
              refine x_callV1v C (okX2_fillWithKeys (b := up a.1 i k) TabA_k PosA_trial hb1 (by decide) (by decide)) lkX5_124 miX2_fillWithKeys msX2_fillWithKeys maX2_fillWithKeys ⟨Nat.le_of_ble_eq_true rfl, Nat.le_of_ble_eq_true rfl⟩ (Nat.le_of_ble_eq_true rfl) rfl rfl dX5_would_96 ?_
              refine x_heap (h2 := HH (a, b, (up a.1 i k, a.2), d) Hs (Tm, tkF (up a.1 i k) Tk, ta, mc) L S V ms mr mm ml mt) (by rfl) ?_
              refine x_aload_n C dX5_would_99 rfl ?_
              refine x_getfield C qk5 7 (by decide) lfX5_39 dX5_would_100 rfl rfl ?_
              refine x_callV0i C (okX2_count TabA_k (keyP (up a.1 i k)) (tkF_at (up a.1 i k) Tk)) lkX5_161 miX2_count msX2_count maX2_count ⟨Nat.le_of_ble_eq_true rfl, Nat.le_of_ble_eq_true rfl⟩ (Nat.le_of_ble_eq_true rfl) rfl rfl dX5_would_103 ?_
              exact x_iret E .int dX5_would_106 rfl rfl rfl rfl
            · rw [hf] at c82; cases c82
          · exact absurd (sqI_neg7.mpr (hl c38)) c49
      · omega
    · rw [hkk] at c18; cases c18
def ahdS (b mc : Nat → Nat) (i : Nat) (o : Nat) : Bool := isW (b o) && decide (mc i < mc o ∨ (mc o = mc i ∧ o < i))
def ahd (b mc : Nat → Nat) (i : Nat) : Nat := cnt (ahdS b mc i) 25
set_option maxHeartbeats 4000000 in
set_option maxRecDepth 100000 in
theorem okX5_placeInOrder {a b c d : qP} {Hs : qHs} {L : qLs} {S : qSs} {V : qVs} {ms : qms} {mr : qmr} {mm : qmm} {ml : qml} {mt : qmt} {Tm Tk : Nat → Int32} {ta mc : Nat → Nat} (ha : Bd a.1) (hmc : ∀ t, mc t < 2147483648) {i : Nat} (hi : i < 25) : Ok MX5_placeInOrder [.ref 0, .int (nI i)] (HH (a, b, c, d) Hs (Tm, Tk, ta, mc) L S V ms mr mm ml mt) (some (.int (nI (ahd a.1 mc i)))) (HH (a, b, c, d) Hs (Tm, Tk, ta, mc) L S V ms mr mm ml mt) := by
  refine ok_of (by decide +kernel) (Nat.zero_le _) (Nat.le_of_ble_eq_true rfl) ?_
  intro X C E
  show Ex X MX5_placeInOrder 0 [(0, .ref 0), (1, .int (nI i))] [] (HH (a, b, c, d) Hs (Tm, Tk, ta, mc) L S V ms mr mm ml mt)
  have LP : ∀ n j : Nat, j + n = 25 → Ex X MX5_placeInOrder 13 [(0, .ref 0), (1, .int (nI i)), (2, .int (nI (cnt (ahdS a.1 mc i) j))), (3, .int (nI j))] [] (HH (a, b, c, d) Hs (Tm, Tk, ta, mc) L S V ms mr mm ml mt) := by
    intro n
    induction n with
    | zero =>
      intro j hin 
      have e : j = 25 := by omega
      subst e
      refine x_iload_n C dX5_placeInOrder_13 rfl ?_
      refine x_bipush C (v := nI 25) dX5_placeInOrder_14 (by decide +kernel) ?_
      refine x_icmp_geN C 101 dX5_placeInOrder_16 (by decide) (by omega) (by omega) (fun c16 => ?_) (fun c16 => ?_)
      · refine x_iload_n C dX5_placeInOrder_101 rfl ?_
        exact x_iret E .int dX5_placeInOrder_102 rfl rfl rfl rfl
      · exact absurd c16 (by omega)
    | succ n ih =>
      intro j hin 
      have hlt : j < 25 := by omega
      have haj := ha.1 j
      refine x_iload_n C dX5_placeInOrder_13 rfl ?_
      refine x_bipush C (v := nI 25) dX5_placeInOrder_14 (by decide +kernel) ?_
      refine x_icmp_geN C 101 dX5_placeInOrder_16 (by decide) (by omega) (by omega) (fun c16 => ?_) (fun c16 => ?_)
      · exact absurd c16 (by omega)
      · refine x_aload_n C dX5_placeInOrder_19 rfl ?_
        refine x_getfield C qk5 9 (by decide) lfX5_46 dX5_placeInOrder_20 rfl rfl ?_
        refine x_iload_n C dX5_placeInOrder_23 rfl ?_
        refine x_iald C dX5_placeInOrder_24 rfl (by omega) (by decide) ?_
        refine x_aload_n C dX5_placeInOrder_25 rfl ?_
        refine x_getfield C qk5 9 (by decide) lfX5_46 dX5_placeInOrder_26 rfl rfl ?_
        refine x_iload_n C dX5_placeInOrder_29 rfl ?_
        refine x_iald C dX5_placeInOrder_30 rfl (by omega) (by decide) ?_
        refine x_icmp_leN C 38 dX5_placeInOrder_31 (by decide) (hmc _) (hmc _) (fun c31 => ?_) (fun c31 => ?_)
        · refine x_iconst C (v := nI 0) dX5_placeInOrder_38 (by decide +kernel) ?_
          refine x_istore C dX5_placeInOrder_39 (by decide) [(4, _), (0, _), (1, _), (2, _), (3, _)] rfl ?_
          refine x_aload_n C dX5_placeInOrder_41 rfl ?_
          refine x_getfield C qk5 9 (by decide) lfX5_46 dX5_placeInOrder_42 rfl rfl ?_
          refine x_iload_n C dX5_placeInOrder_45 rfl ?_
          refine x_iald C dX5_placeInOrder_46 rfl (by omega) (by decide) ?_
          refine x_aload_n C dX5_placeInOrder_47 rfl ?_
          refine x_getfield C qk5 9 (by decide) lfX5_46 dX5_placeInOrder_48 rfl rfl ?_
          refine x_iload_n C dX5_placeInOrder_51 rfl ?_
          refine x_iald C dX5_placeInOrder_52 rfl (by omega) (by decide) ?_
          refine x_icmp_neN C 65 dX5_placeInOrder_53 (by decide) (hmc _) (hmc _) (fun c53 => ?_) (fun c53 => ?_)
          · refine x_iconst C (v := nI 0) dX5_placeInOrder_65 (by decide +kernel) ?_
            refine x_istore C dX5_placeInOrder_66 (by decide) [(5, _), (4, _), (0, _), (1, _), (2, _), (3, _)] rfl ?_
            refine x_aload_n C dX5_placeInOrder_68 rfl ?_
            refine x_getfield C qk5 0 (by decide) lfX5_12 dX5_placeInOrder_69 rfl rfl ?_
            refine x_iload_n C dX5_placeInOrder_72 rfl ?_
            refine x_callV1i C (okX3_manOn PosA_now hlt) lkX5_99 miX3_manOn msX3_manOn maX3_manOn ⟨Nat.le_of_ble_eq_true rfl, Nat.le_of_ble_eq_true rfl⟩ (Nat.le_of_ble_eq_true rfl) rfl rfl dX5_placeInOrder_73 ?_
            refine x_callS1i C (okX5_isWhite _ (by omega) _) lkX5_171 miX5_isWhite mtX5_isWhite maX5_isWhite ⟨Nat.le_of_ble_eq_true rfl, Nat.le_of_ble_eq_true rfl⟩ (Nat.le_of_ble_eq_true rfl) dX5_placeInOrder_76 ?_
            refine x_if_eqB C 95 dX5_placeInOrder_79 (by decide) (fun c79 => ?_) (fun c79 => ?_)
            · refine x_iinc C _ dX5_placeInOrder_95 rfl (q_inc _) (by decide) [(3, _), (5, _), (4, _), (0, _), (1, _), (2, _)] rfl ?_
              refine x_goto C 13 dX5_placeInOrder_98 (by decide) ?_
              try dsimp only at c31 c53
              have hno : ahdS a.1 mc i j = false := by unfold ahdS; rw [c79]; rfl
              rw [show cnt (ahdS a.1 mc i) j = cnt (ahdS a.1 mc i) (j + 1) by simp [cnt, hno]]
              exact x_sub [3, 4, 5, 0] (ih (j + 1) (by omega)) rfl
            · refine x_iload C dX5_placeInOrder_82 rfl ?_
              refine x_if_neN C 92 dX5_placeInOrder_84 (by decide) (by omega) (fun c84 => ?_) (fun c84 => ?_)
              · exact absurd rfl c84
              · refine x_iload C dX5_placeInOrder_87 rfl ?_
                refine x_if_eqN C 95 dX5_placeInOrder_89 (by decide) (by omega) (fun c89 => ?_) (fun c89 => ?_)
                · refine x_iinc C _ dX5_placeInOrder_95 rfl (q_inc _) (by decide) [(3, _), (5, _), (4, _), (0, _), (1, _), (2, _)] rfl ?_
                  refine x_goto C 13 dX5_placeInOrder_98 (by decide) ?_
                  try dsimp only at c31 c53
                  have hno : ahdS a.1 mc i j = false := by unfold ahdS; rw [decide_eq_false (by omega), Bool.and_false]
                  rw [show cnt (ahdS a.1 mc i) j = cnt (ahdS a.1 mc i) (j + 1) by simp [cnt, hno]]
                  exact x_sub [3, 4, 5, 0] (ih (j + 1) (by omega)) rfl
                · exact absurd rfl c89
          · refine x_iload_n C dX5_placeInOrder_56 rfl ?_
            refine x_iload_n C dX5_placeInOrder_57 rfl ?_
            refine x_icmp_geN C 65 dX5_placeInOrder_58 (by decide) (by omega) (by omega) (fun c58 => ?_) (fun c58 => ?_)
            · refine x_iconst C (v := nI 0) dX5_placeInOrder_65 (by decide +kernel) ?_
              refine x_istore C dX5_placeInOrder_66 (by decide) [(5, _), (4, _), (0, _), (1, _), (2, _), (3, _)] rfl ?_
              refine x_aload_n C dX5_placeInOrder_68 rfl ?_
              refine x_getfield C qk5 0 (by decide) lfX5_12 dX5_placeInOrder_69 rfl rfl ?_
              refine x_iload_n C dX5_placeInOrder_72 rfl ?_
              refine x_callV1i C (okX3_manOn PosA_now hlt) lkX5_99 miX3_manOn msX3_manOn maX3_manOn ⟨Nat.le_of_ble_eq_true rfl, Nat.le_of_ble_eq_true rfl⟩ (Nat.le_of_ble_eq_true rfl) rfl rfl dX5_placeInOrder_73 ?_
              refine x_callS1i C (okX5_isWhite _ (by omega) _) lkX5_171 miX5_isWhite mtX5_isWhite maX5_isWhite ⟨Nat.le_of_ble_eq_true rfl, Nat.le_of_ble_eq_true rfl⟩ (Nat.le_of_ble_eq_true rfl) dX5_placeInOrder_76 ?_
              refine x_if_eqB C 95 dX5_placeInOrder_79 (by decide) (fun c79 => ?_) (fun c79 => ?_)
              · refine x_iinc C _ dX5_placeInOrder_95 rfl (q_inc _) (by decide) [(3, _), (5, _), (4, _), (0, _), (1, _), (2, _)] rfl ?_
                refine x_goto C 13 dX5_placeInOrder_98 (by decide) ?_
                try dsimp only at c31 c53
                have hno : ahdS a.1 mc i j = false := by unfold ahdS; rw [c79]; rfl
                rw [show cnt (ahdS a.1 mc i) j = cnt (ahdS a.1 mc i) (j + 1) by simp [cnt, hno]]
                exact x_sub [3, 4, 5, 0] (ih (j + 1) (by omega)) rfl
              · refine x_iload C dX5_placeInOrder_82 rfl ?_
                refine x_if_neN C 92 dX5_placeInOrder_84 (by decide) (by omega) (fun c84 => ?_) (fun c84 => ?_)
                · exact absurd rfl c84
                · refine x_iload C dX5_placeInOrder_87 rfl ?_
                  refine x_if_eqN C 95 dX5_placeInOrder_89 (by decide) (by omega) (fun c89 => ?_) (fun c89 => ?_)
                  · refine x_iinc C _ dX5_placeInOrder_95 rfl (q_inc _) (by decide) [(3, _), (5, _), (4, _), (0, _), (1, _), (2, _)] rfl ?_
                    refine x_goto C 13 dX5_placeInOrder_98 (by decide) ?_
                    try dsimp only at c31 c53
                    have hno : ahdS a.1 mc i j = false := by unfold ahdS; rw [decide_eq_false (by omega), Bool.and_false]
                    rw [show cnt (ahdS a.1 mc i) j = cnt (ahdS a.1 mc i) (j + 1) by simp [cnt, hno]]
                    exact x_sub [3, 4, 5, 0] (ih (j + 1) (by omega)) rfl
                  · exact absurd rfl c89
            · refine x_iconst C (v := nI 1) dX5_placeInOrder_61 (by decide +kernel) ?_
              refine x_goto C 66 dX5_placeInOrder_62 (by decide) ?_
              refine x_istore C dX5_placeInOrder_66 (by decide) [(5, _), (4, _), (0, _), (1, _), (2, _), (3, _)] rfl ?_
              refine x_aload_n C dX5_placeInOrder_68 rfl ?_
              refine x_getfield C qk5 0 (by decide) lfX5_12 dX5_placeInOrder_69 rfl rfl ?_
              refine x_iload_n C dX5_placeInOrder_72 rfl ?_
              refine x_callV1i C (okX3_manOn PosA_now hlt) lkX5_99 miX3_manOn msX3_manOn maX3_manOn ⟨Nat.le_of_ble_eq_true rfl, Nat.le_of_ble_eq_true rfl⟩ (Nat.le_of_ble_eq_true rfl) rfl rfl dX5_placeInOrder_73 ?_
              refine x_callS1i C (okX5_isWhite _ (by omega) _) lkX5_171 miX5_isWhite mtX5_isWhite maX5_isWhite ⟨Nat.le_of_ble_eq_true rfl, Nat.le_of_ble_eq_true rfl⟩ (Nat.le_of_ble_eq_true rfl) dX5_placeInOrder_76 ?_
              refine x_if_eqB C 95 dX5_placeInOrder_79 (by decide) (fun c79 => ?_) (fun c79 => ?_)
              · refine x_iinc C _ dX5_placeInOrder_95 rfl (q_inc _) (by decide) [(3, _), (5, _), (4, _), (0, _), (1, _), (2, _)] rfl ?_
                refine x_goto C 13 dX5_placeInOrder_98 (by decide) ?_
                try dsimp only at c31 c53
                have hno : ahdS a.1 mc i j = false := by unfold ahdS; rw [c79]; rfl
                rw [show cnt (ahdS a.1 mc i) j = cnt (ahdS a.1 mc i) (j + 1) by simp [cnt, hno]]
                exact x_sub [3, 4, 5, 0] (ih (j + 1) (by omega)) rfl
              · refine x_iload C dX5_placeInOrder_82 rfl ?_
                refine x_if_neN C 92 dX5_placeInOrder_84 (by decide) (by omega) (fun c84 => ?_) (fun c84 => ?_)
                · exact absurd rfl c84
                · refine x_iload C dX5_placeInOrder_87 rfl ?_
                  refine x_if_eqN C 95 dX5_placeInOrder_89 (by decide) (by omega) (fun c89 => ?_) (fun c89 => ?_)
                  · exact absurd c89 (by decide)
                  · try dsimp only at c31 c53
                    have hyes : ahdS a.1 mc i j = true := by unfold ahdS; rw [c79, decide_eq_true (by omega)]; rfl
                    have e : cnt (ahdS a.1 mc i) j + 1 = cnt (ahdS a.1 mc i) (j + 1) := by simp [cnt, hyes]
                    refine x_iinc C (nI (cnt (ahdS a.1 mc i) (j + 1))) dX5_placeInOrder_92 rfl (by rw [← e]; exact q_inc _) (by decide) [(2, _), (5, _), (4, _), (0, _), (1, _), (3, _)] rfl ?_
                    refine x_iinc C _ dX5_placeInOrder_95 rfl (q_inc _) (by decide) [(3, _), (2, _), (5, _), (4, _), (0, _), (1, _)] rfl ?_
                    refine x_goto C 13 dX5_placeInOrder_98 (by decide) ?_
                    exact x_sub [4, 5, 1, 0] (ih (j + 1) (by omega)) rfl
        · refine x_iconst C (v := nI 1) dX5_placeInOrder_34 (by decide +kernel) ?_
          refine x_goto C 39 dX5_placeInOrder_35 (by decide) ?_
          refine x_istore C dX5_placeInOrder_39 (by decide) [(4, _), (0, _), (1, _), (2, _), (3, _)] rfl ?_
          refine x_aload_n C dX5_placeInOrder_41 rfl ?_
          refine x_getfield C qk5 9 (by decide) lfX5_46 dX5_placeInOrder_42 rfl rfl ?_
          refine x_iload_n C dX5_placeInOrder_45 rfl ?_
          refine x_iald C dX5_placeInOrder_46 rfl (by omega) (by decide) ?_
          refine x_aload_n C dX5_placeInOrder_47 rfl ?_
          refine x_getfield C qk5 9 (by decide) lfX5_46 dX5_placeInOrder_48 rfl rfl ?_
          refine x_iload_n C dX5_placeInOrder_51 rfl ?_
          refine x_iald C dX5_placeInOrder_52 rfl (by omega) (by decide) ?_
          refine x_icmp_neN C 65 dX5_placeInOrder_53 (by decide) (hmc _) (hmc _) (fun c53 => ?_) (fun c53 => ?_)
          · refine x_iconst C (v := nI 0) dX5_placeInOrder_65 (by decide +kernel) ?_
            refine x_istore C dX5_placeInOrder_66 (by decide) [(5, _), (4, _), (0, _), (1, _), (2, _), (3, _)] rfl ?_
            refine x_aload_n C dX5_placeInOrder_68 rfl ?_
            refine x_getfield C qk5 0 (by decide) lfX5_12 dX5_placeInOrder_69 rfl rfl ?_
            refine x_iload_n C dX5_placeInOrder_72 rfl ?_
            refine x_callV1i C (okX3_manOn PosA_now hlt) lkX5_99 miX3_manOn msX3_manOn maX3_manOn ⟨Nat.le_of_ble_eq_true rfl, Nat.le_of_ble_eq_true rfl⟩ (Nat.le_of_ble_eq_true rfl) rfl rfl dX5_placeInOrder_73 ?_
            refine x_callS1i C (okX5_isWhite _ (by omega) _) lkX5_171 miX5_isWhite mtX5_isWhite maX5_isWhite ⟨Nat.le_of_ble_eq_true rfl, Nat.le_of_ble_eq_true rfl⟩ (Nat.le_of_ble_eq_true rfl) dX5_placeInOrder_76 ?_
            refine x_if_eqB C 95 dX5_placeInOrder_79 (by decide) (fun c79 => ?_) (fun c79 => ?_)
            · refine x_iinc C _ dX5_placeInOrder_95 rfl (q_inc _) (by decide) [(3, _), (5, _), (4, _), (0, _), (1, _), (2, _)] rfl ?_
              refine x_goto C 13 dX5_placeInOrder_98 (by decide) ?_
              try dsimp only at c31 c53
              have hno : ahdS a.1 mc i j = false := by unfold ahdS; rw [c79]; rfl
              rw [show cnt (ahdS a.1 mc i) j = cnt (ahdS a.1 mc i) (j + 1) by simp [cnt, hno]]
              exact x_sub [3, 4, 5, 0] (ih (j + 1) (by omega)) rfl
            · refine x_iload C dX5_placeInOrder_82 rfl ?_
              refine x_if_neN C 92 dX5_placeInOrder_84 (by decide) (by omega) (fun c84 => ?_) (fun c84 => ?_)
              · try dsimp only at c31 c53
                have hyes : ahdS a.1 mc i j = true := by unfold ahdS; rw [c79, decide_eq_true (by omega)]; rfl
                have e : cnt (ahdS a.1 mc i) j + 1 = cnt (ahdS a.1 mc i) (j + 1) := by simp [cnt, hyes]
                refine x_iinc C (nI (cnt (ahdS a.1 mc i) (j + 1))) dX5_placeInOrder_92 rfl (by rw [← e]; exact q_inc _) (by decide) [(2, _), (5, _), (4, _), (0, _), (1, _), (3, _)] rfl ?_
                refine x_iinc C _ dX5_placeInOrder_95 rfl (q_inc _) (by decide) [(3, _), (2, _), (5, _), (4, _), (0, _), (1, _)] rfl ?_
                refine x_goto C 13 dX5_placeInOrder_98 (by decide) ?_
                exact x_sub [4, 5, 1, 0] (ih (j + 1) (by omega)) rfl
              · exact absurd c84 (by decide)
          · refine x_iload_n C dX5_placeInOrder_56 rfl ?_
            refine x_iload_n C dX5_placeInOrder_57 rfl ?_
            refine x_icmp_geN C 65 dX5_placeInOrder_58 (by decide) (by omega) (by omega) (fun c58 => ?_) (fun c58 => ?_)
            · refine x_iconst C (v := nI 0) dX5_placeInOrder_65 (by decide +kernel) ?_
              refine x_istore C dX5_placeInOrder_66 (by decide) [(5, _), (4, _), (0, _), (1, _), (2, _), (3, _)] rfl ?_
              refine x_aload_n C dX5_placeInOrder_68 rfl ?_
              refine x_getfield C qk5 0 (by decide) lfX5_12 dX5_placeInOrder_69 rfl rfl ?_
              refine x_iload_n C dX5_placeInOrder_72 rfl ?_
              refine x_callV1i C (okX3_manOn PosA_now hlt) lkX5_99 miX3_manOn msX3_manOn maX3_manOn ⟨Nat.le_of_ble_eq_true rfl, Nat.le_of_ble_eq_true rfl⟩ (Nat.le_of_ble_eq_true rfl) rfl rfl dX5_placeInOrder_73 ?_
              refine x_callS1i C (okX5_isWhite _ (by omega) _) lkX5_171 miX5_isWhite mtX5_isWhite maX5_isWhite ⟨Nat.le_of_ble_eq_true rfl, Nat.le_of_ble_eq_true rfl⟩ (Nat.le_of_ble_eq_true rfl) dX5_placeInOrder_76 ?_
              refine x_if_eqB C 95 dX5_placeInOrder_79 (by decide) (fun c79 => ?_) (fun c79 => ?_)
              · refine x_iinc C _ dX5_placeInOrder_95 rfl (q_inc _) (by decide) [(3, _), (5, _), (4, _), (0, _), (1, _), (2, _)] rfl ?_
                refine x_goto C 13 dX5_placeInOrder_98 (by decide) ?_
                try dsimp only at c31 c53
                have hno : ahdS a.1 mc i j = false := by unfold ahdS; rw [c79]; rfl
                rw [show cnt (ahdS a.1 mc i) j = cnt (ahdS a.1 mc i) (j + 1) by simp [cnt, hno]]
                exact x_sub [3, 4, 5, 0] (ih (j + 1) (by omega)) rfl
              · refine x_iload C dX5_placeInOrder_82 rfl ?_
                refine x_if_neN C 92 dX5_placeInOrder_84 (by decide) (by omega) (fun c84 => ?_) (fun c84 => ?_)
                · try dsimp only at c31 c53
                  have hyes : ahdS a.1 mc i j = true := by unfold ahdS; rw [c79, decide_eq_true (by omega)]; rfl
                  have e : cnt (ahdS a.1 mc i) j + 1 = cnt (ahdS a.1 mc i) (j + 1) := by simp [cnt, hyes]
                  refine x_iinc C (nI (cnt (ahdS a.1 mc i) (j + 1))) dX5_placeInOrder_92 rfl (by rw [← e]; exact q_inc _) (by decide) [(2, _), (5, _), (4, _), (0, _), (1, _), (3, _)] rfl ?_
                  refine x_iinc C _ dX5_placeInOrder_95 rfl (q_inc _) (by decide) [(3, _), (2, _), (5, _), (4, _), (0, _), (1, _)] rfl ?_
                  refine x_goto C 13 dX5_placeInOrder_98 (by decide) ?_
                  exact x_sub [4, 5, 1, 0] (ih (j + 1) (by omega)) rfl
                · exact absurd c84 (by decide)
            · refine x_iconst C (v := nI 1) dX5_placeInOrder_61 (by decide +kernel) ?_
              refine x_goto C 66 dX5_placeInOrder_62 (by decide) ?_
              refine x_istore C dX5_placeInOrder_66 (by decide) [(5, _), (4, _), (0, _), (1, _), (2, _), (3, _)] rfl ?_
              refine x_aload_n C dX5_placeInOrder_68 rfl ?_
              refine x_getfield C qk5 0 (by decide) lfX5_12 dX5_placeInOrder_69 rfl rfl ?_
              refine x_iload_n C dX5_placeInOrder_72 rfl ?_
              refine x_callV1i C (okX3_manOn PosA_now hlt) lkX5_99 miX3_manOn msX3_manOn maX3_manOn ⟨Nat.le_of_ble_eq_true rfl, Nat.le_of_ble_eq_true rfl⟩ (Nat.le_of_ble_eq_true rfl) rfl rfl dX5_placeInOrder_73 ?_
              refine x_callS1i C (okX5_isWhite _ (by omega) _) lkX5_171 miX5_isWhite mtX5_isWhite maX5_isWhite ⟨Nat.le_of_ble_eq_true rfl, Nat.le_of_ble_eq_true rfl⟩ (Nat.le_of_ble_eq_true rfl) dX5_placeInOrder_76 ?_
              refine x_if_eqB C 95 dX5_placeInOrder_79 (by decide) (fun c79 => ?_) (fun c79 => ?_)
              · refine x_iinc C _ dX5_placeInOrder_95 rfl (q_inc _) (by decide) [(3, _), (5, _), (4, _), (0, _), (1, _), (2, _)] rfl ?_
                refine x_goto C 13 dX5_placeInOrder_98 (by decide) ?_
                try dsimp only at c31 c53
                have hno : ahdS a.1 mc i j = false := by unfold ahdS; rw [c79]; rfl
                rw [show cnt (ahdS a.1 mc i) j = cnt (ahdS a.1 mc i) (j + 1) by simp [cnt, hno]]
                exact x_sub [3, 4, 5, 0] (ih (j + 1) (by omega)) rfl
              · refine x_iload C dX5_placeInOrder_82 rfl ?_
                refine x_if_neN C 92 dX5_placeInOrder_84 (by decide) (by omega) (fun c84 => ?_) (fun c84 => ?_)
                · try dsimp only at c31 c53
                  have hyes : ahdS a.1 mc i j = true := by unfold ahdS; rw [c79, decide_eq_true (by omega)]; rfl
                  have e : cnt (ahdS a.1 mc i) j + 1 = cnt (ahdS a.1 mc i) (j + 1) := by simp [cnt, hyes]
                  refine x_iinc C (nI (cnt (ahdS a.1 mc i) (j + 1))) dX5_placeInOrder_92 rfl (by rw [← e]; exact q_inc _) (by decide) [(2, _), (5, _), (4, _), (0, _), (1, _), (3, _)] rfl ?_
                  refine x_iinc C _ dX5_placeInOrder_95 rfl (q_inc _) (by decide) [(3, _), (2, _), (5, _), (4, _), (0, _), (1, _)] rfl ?_
                  refine x_goto C 13 dX5_placeInOrder_98 (by decide) ?_
                  exact x_sub [4, 5, 1, 0] (ih (j + 1) (by omega)) rfl
                · exact absurd c84 (by decide)
  refine x_iload_n C dX5_placeInOrder_0 rfl ?_
  refine x_callS1i C (okX5_isSquare _ _) lkX5_95 miX5_isSquare mtX5_isSquare maX5_isSquare ⟨Nat.le_of_ble_eq_true rfl, Nat.le_of_ble_eq_true rfl⟩ (Nat.le_of_ble_eq_true rfl) dX5_placeInOrder_1 ?_
  rw [isSq_nI (by omega), decide_eq_true hi]
  refine x_if_neB C 9 dX5_placeInOrder_4 (by decide) (fun c4 => ?_) (fun c4 => ?_)
  · refine x_iconst C (v := nI 0) dX5_placeInOrder_9 (by decide +kernel) ?_
    refine x_istore_n C dX5_placeInOrder_10 (by decide) [(2, _), (0, _), (1, _)] rfl ?_
    refine x_iconst C (v := nI 0) dX5_placeInOrder_11 (by decide +kernel) ?_
    refine x_istore_n C dX5_placeInOrder_12 (by decide) [(3, _), (2, _), (0, _), (1, _)] rfl ?_
    exact x_sub [2, 3, 1, 0] (LP 25 0 (by omega)) rfl
  · cases c4
def mcR (b mc : Nat → Nat) : Nat → (Nat → Nat)
  | 0 => mc
  | n + 1 => up (mcR b mc n) n (cnt (movP b n) 25)
theorem mcR_lt {b mc : Nat → Nat} (h : ∀ t, mc t < 100) : ∀ n t, mcR b mc n t < 100
  | 0, t => h t
  | n + 1, t => by
    have h1 := mcR_lt (b := b) h n t
    have h2 := cnt_le (movP b n) 25
    simp only [mcR, up]
    split <;> omega
def rkS (b mc : Nat → Nat) (x : Int32) (i : Nat) : Bool := isW (b i) && decide (nI (ahd b mc i) = x)
set_option maxHeartbeats 4000000 in
set_option maxRecDepth 100000 in
theorem okX5_ranked {a b c d : qP} {Hs : qHs} {L : qLs} {S : qSs} {V : qVs} {ms : qms} {mr : qmr} {mm : qmm} {ml : qml} {mt : qmt} {Tm Tk : Nat → Int32} {ta mc : Nat → Nat} (ha : Bd a.1) (hmc : ∀ t, mc t < 100) (x : Int32) : Ok MX5_ranked [.ref 0, .int x] (HH (a, b, c, d) Hs (Tm, Tk, ta, mc) L S V ms mr mm ml mt) (some (.int (low (rkS a.1 (mcR a.1 mc 25) x) 25 0))) (HH (a, b, c, d) Hs (Tm, Tk, ta, mcR a.1 mc 25) L S V ms mr mm ml mt) := by
  refine ok_of (by decide +kernel) (Nat.zero_le _) (Nat.le_of_ble_eq_true rfl) ?_
  intro X C E
  show Ex X MX5_ranked 0 [(0, .ref 0), (1, .int x)] [] (HH (a, b, c, d) Hs (Tm, Tk, ta, mc) L S V ms mr mm ml mt)
  have hm25 := mcR_lt (b := a.1) hmc 25
  have L2 : ∀ n i : Nat, i + n = 25 → low (rkS a.1 (mcR a.1 mc 25) x) 25 0 = low (rkS a.1 (mcR a.1 mc 25) x) n i → Ex X MX5_ranked 33 [(0, .ref 0), (1, .int x), (2, .int (nI i))] [] (HH (a, b, c, d) Hs (Tm, Tk, ta, mcR a.1 mc 25) L S V ms mr mm ml mt) := by
    intro n
    induction n with
    | zero =>
      intro i hin ht
      have e : i = 25 := by omega
      subst e
      refine x_iload_n C dX5_ranked_33 rfl ?_
      refine x_bipush C (v := nI 25) dX5_ranked_34 (by decide +kernel) ?_
      refine x_icmp_geN C 70 dX5_ranked_36 (by decide) (by omega) (by omega) (fun c36 => ?_) (fun c36 => ?_)
      · refine x_iconst C (v := (-1)) dX5_ranked_70 (by decide +kernel) ?_
        exact x_iret E .int dX5_ranked_71 rfl rfl (by rw [ht]; rfl) rfl
      · exact absurd c36 (by omega)
    | succ n ih =>
      intro i hin ht
      have hlt : i < 25 := by omega
      have hai := ha.1 i
      refine x_iload_n C dX5_ranked_33 rfl ?_
      refine x_bipush C (v := nI 25) dX5_ranked_34 (by decide +kernel) ?_
      refine x_icmp_geN C 70 dX5_ranked_36 (by decide) (by omega) (by omega) (fun c36 => ?_) (fun c36 => ?_)
      · exact absurd c36 (by omega)
      · refine x_aload_n C dX5_ranked_39 rfl ?_
        refine x_getfield C qk5 0 (by decide) lfX5_12 dX5_ranked_40 rfl rfl ?_
        refine x_iload_n C dX5_ranked_43 rfl ?_
        refine x_callV1i C (okX3_manOn PosA_now hlt) lkX5_99 miX3_manOn msX3_manOn maX3_manOn ⟨Nat.le_of_ble_eq_true rfl, Nat.le_of_ble_eq_true rfl⟩ (Nat.le_of_ble_eq_true rfl) rfl rfl dX5_ranked_44 ?_
        refine x_callS1i C (okX5_isWhite _ (by omega) _) lkX5_171 miX5_isWhite mtX5_isWhite maX5_isWhite ⟨Nat.le_of_ble_eq_true rfl, Nat.le_of_ble_eq_true rfl⟩ (Nat.le_of_ble_eq_true rfl) dX5_ranked_47 ?_
        refine x_if_eqB C 64 dX5_ranked_50 (by decide) (fun c50 => ?_) (fun c50 => ?_)
        · refine x_iinc C _ dX5_ranked_64 rfl (q_inc _) (by decide) [(2, _), (0, _), (1, _)] rfl ?_
          refine x_goto C 33 dX5_ranked_67 (by decide) ?_
          exact x_sub [1, 2, 0] (ih (i + 1) (by omega) (by rw [ht, low, if_neg (by unfold rkS; rw [c50, Bool.false_and]; decide)])) rfl
        · refine x_aload_n C dX5_ranked_53 rfl ?_
          refine x_iload_n C dX5_ranked_54 rfl ?_
          refine x_callV1i C (okX5_placeInOrder ha (fun t => Nat.lt_trans (hm25 t) (by decide)) hlt) lkX5_174 miX5_placeInOrder msX5_placeInOrder maX5_placeInOrder ⟨Nat.le_of_ble_eq_true rfl, Nat.le_of_ble_eq_true rfl⟩ (Nat.le_of_ble_eq_true rfl) rfl rfl dX5_ranked_55 ?_
          refine x_iload_n C dX5_ranked_58 rfl ?_
          refine x_icmp_ne C 64 dX5_ranked_59 (by decide) (fun c59 => ?_) (fun c59 => ?_)
          · refine x_iinc C _ dX5_ranked_64 rfl (q_inc _) (by decide) [(2, _), (0, _), (1, _)] rfl ?_
            refine x_goto C 33 dX5_ranked_67 (by decide) ?_
            exact x_sub [1, 2, 0] (ih (i + 1) (by omega) (by rw [ht, low, if_neg (by unfold rkS; rw [decide_eq_false c59, Bool.and_false]; decide)])) rfl
          · refine x_iload_n C dX5_ranked_62 rfl ?_
            exact x_iret E .int dX5_ranked_63 rfl rfl (by rw [ht, low, if_pos (by unfold rkS; rw [c50, decide_eq_true c59]; rfl)]) rfl
  have LP : ∀ n i : Nat, i + n = 25 → Ex X MX5_ranked 2 [(0, .ref 0), (1, .int x), (2, .int (nI i))] [] (HH (a, b, c, d) Hs (Tm, Tk, ta, mcR a.1 mc i) L S V ms mr mm ml mt) := by
    intro n
    induction n with
    | zero =>
      intro i hin 
      have e : i = 25 := by omega
      subst e
      refine x_iload_n C dX5_ranked_2 rfl ?_
      refine x_bipush C (v := nI 25) dX5_ranked_3 (by decide +kernel) ?_
      refine x_icmp_geN C 31 dX5_ranked_5 (by decide) (by omega) (by omega) (fun c5 => ?_) (fun c5 => ?_)
      · refine x_iconst C (v := nI 0) dX5_ranked_31 (by decide +kernel) ?_
        refine x_istore_n C dX5_ranked_32 (by decide) [(2, _), (0, _), (1, _)] rfl ?_
        exact x_sub [1, 2, 0] (L2 25 0 (by omega) rfl) rfl
      · exact absurd c5 (by omega)
    | succ n ih =>
      intro i hin 
      have hlt : i < 25 := by omega
      refine x_iload_n C dX5_ranked_2 rfl ?_
      refine x_bipush C (v := nI 25) dX5_ranked_3 (by decide +kernel) ?_
      refine x_icmp_geN C 31 dX5_ranked_5 (by decide) (by omega) (by omega) (fun c5 => ?_) (fun c5 => ?_)
      · exact absurd c5 (by omega)
      · refine x_aload_n C dX5_ranked_8 rfl ?_
        refine x_getfield C qk5 9 (by decide) lfX5_46 dX5_ranked_9 rfl rfl ?_
        refine x_iload_n C dX5_ranked_12 rfl ?_
        refine x_aload_n C dX5_ranked_13 rfl ?_
        refine x_getfield C qk5 0 (by decide) lfX5_12 dX5_ranked_14 rfl rfl ?_
        refine x_iload_n C dX5_ranked_17 rfl ?_
        refine x_callV1i C (okX3_movesFrom PosA_now ha.1 hlt) lkX5_114 miX3_movesFrom msX3_movesFrom maX3_movesFrom ⟨Nat.le_of_ble_eq_true rfl, Nat.le_of_ble_eq_true rfl⟩ (Nat.le_of_ble_eq_true rfl) rfl rfl dX5_ranked_18 ?_
        refine x_callS1i C (okX5_bitsOf _ _) lkX5_111 miX5_bitsOf mtX5_bitsOf maX5_bitsOf ⟨Nat.le_of_ble_eq_true rfl, Nat.le_of_ble_eq_true rfl⟩ (Nat.le_of_ble_eq_true rfl) dX5_ranked_21 ?_
        refine x_istb C dX5_ranked_24 rfl (by omega) (by decide) ?_
        refine x_heap (h2 := HH (a, b, c, d) Hs (Tm, Tk, ta, mcR a.1 mc (i + 1)) L S V ms mr mm ml mt) (by rfl) ?_
        refine x_iinc C _ dX5_ranked_25 rfl (q_inc _) (by decide) [(2, _), (0, _), (1, _)] rfl ?_
        refine x_goto C 2 dX5_ranked_28 (by decide) ?_
        exact x_sub [1, 2, 0] (ih (i + 1) (by omega)) rfl
  refine x_iconst C (v := nI 0) dX5_ranked_0 (by decide +kernel) ?_
  refine x_istore_n C dX5_ranked_1 (by decide) [(2, _), (0, _), (1, _)] rfl ?_
  exact x_sub [1, 2, 0] (LP 25 0 (by omega)) rfl
