/-! the changes, as they are made -/
def menN (b : Nat → Nat) : Nat := cnt (ckS b 1 7) 25
theorem menN_le (b : Nat → Nat) : menN b ≤ 25 := cnt_le _ 25
/-- what a change does: its answer, what is refused, the position -/
abbrev qOut : Type := Int32 × Option (Int32 × Int32) × qP
def refV (V : qVs) (o : Option (Int32 × Int32)) : qVs := match o with
  | none => V
  | some q => (V.1, V.2.1, q.1, q.2, V.2.1)
def putC (a : qP) (v i : Nat) : qOut :=
  if a.1 i ≠ 0 then (-3, some (nI 1, nI (a.1 i)), a)
  else if isK v = true ∧ loc7 a.1 v ≠ none then (-3, some (nI 2, sqI (loc7 a.1 v)), a)
  else if 12 ≤ menN a.1 then (-3, some (nI 3, nI 12), a)
  else (nI (menN (up a.1 i v)), none, (up a.1 i v, a.2))
def putF (a : qP) (x y : Int32) : qOut :=
  if isSq y = false then (-1, none, a) else if x < nI 1 ∨ nI 7 < x then (-2, none, a) else putC a x.toNatClampNeg y.toNatClampNeg
def liftC (a : qP) (i : Nat) : qOut := if a.1 i = 0 then (-3, some (nI 4, nI i), a) else (nI (a.1 i), none, (up a.1 i 0, a.2))
def liftF (a : qP) (y : Int32) : qOut := if isSq y = false then (-1, none, a) else liftC a y.toNatClampNeg
def playC (a : qP) (i j : Nat) : qOut :=
  if a.1 i = 0 then (-3, some (nI 4, nI i), a)
  else if movP a.1 i j = false then (-3, some (nI 5, nI (a.1 i)), a)
  else (nI (a.1 j), none, (aft a.1 i j, a.2.1 + 1, a.2.2.1 + (if a.1 j = 6 then 1 else 0), a.2.2.2))
def playF (a : qP) (x y : Int32) : qOut := if isSq x = false ∨ isSq y = false then (-1, none, a) else playC a x.toNatClampNeg y.toNatClampNeg
def refP (V : qVs) (o : qOut) : qVs := refV V o.2.1
set_option maxHeartbeats 4000000 in
set_option maxRecDepth 100000 in
theorem okX5_putNow_a {a b c d : qP} {Hs : qHs} {T : qTs} {L : qLs} {S : qSs} {V : qVs} {ms : qms} {mr : qmr} {mm : qmm} {ml : qml} {mt : qmt} (x y : Int32) (hy : isSq y = false) : Ok MX5_putNow [.ref 0, .int x, .int y] (HH (a, b, c, d) Hs T L S V ms mr mm ml mt) (some (.int (-1))) (HH (a, b, c, d) Hs T L S V ms mr mm ml mt) := by
  refine ok_of (by decide +kernel) (Nat.zero_le _) (Nat.le_of_ble_eq_true rfl) ?_
  intro X C E
  show Ex X MX5_putNow 0 [(0, .ref 0), (1, .int x), (2, .int y)] [] (HH (a, b, c, d) Hs T L S V ms mr mm ml mt)
  refine x_iload_n C dX5_putNow_0 rfl ?_
  refine x_callS1i C (okX5_isSquare _ _) lkX5_95 miX5_isSquare mtX5_isSquare maX5_isSquare ⟨Nat.le_of_ble_eq_true rfl, Nat.le_of_ble_eq_true rfl⟩ (Nat.le_of_ble_eq_true rfl) dX5_putNow_1 ?_
  rw [hy]
  refine x_if_neB C 9 dX5_putNow_4 (by decide) (fun c4 => ?_) (fun c4 => ?_)
  · cases c4
  · refine x_iconst C (v := (-1)) dX5_putNow_7 (by decide +kernel) ?_
    exact x_iret E .int dX5_putNow_8 rfl rfl rfl rfl
set_option maxHeartbeats 4000000 in
set_option maxRecDepth 100000 in
theorem okX5_putNow_b {a b c d : qP} {Hs : qHs} {T : qTs} {L : qLs} {S : qSs} {V : qVs} {ms : qms} {mr : qmr} {mm : qmm} {ml : qml} {mt : qmt} {x : Int32} (hx : x < nI 1 ∨ nI 7 < x) {i : Nat} (hi : i < 25) : Ok MX5_putNow [.ref 0, .int x, .int (nI i)] (HH (a, b, c, d) Hs T L S V ms mr mm ml mt) (some (.int (-2))) (HH (a, b, c, d) Hs T L S V ms mr mm ml mt) := by
  refine ok_of (by decide +kernel) (Nat.zero_le _) (Nat.le_of_ble_eq_true rfl) ?_
  intro X C E
  show Ex X MX5_putNow 0 [(0, .ref 0), (1, .int x), (2, .int (nI i))] [] (HH (a, b, c, d) Hs T L S V ms mr mm ml mt)
  refine x_iload_n C dX5_putNow_0 rfl ?_
  refine x_callS1i C (okX5_isSquare _ _) lkX5_95 miX5_isSquare mtX5_isSquare maX5_isSquare ⟨Nat.le_of_ble_eq_true rfl, Nat.le_of_ble_eq_true rfl⟩ (Nat.le_of_ble_eq_true rfl) dX5_putNow_1 ?_
  rw [isSq_nI (by omega), decide_eq_true hi]
  refine x_if_neB C 9 dX5_putNow_4 (by decide) (fun c4 => ?_) (fun c4 => ?_)
  · refine x_iload_n C dX5_putNow_9 rfl ?_
    refine x_iconst C (v := nI 1) dX5_putNow_10 (by decide +kernel) ?_
    refine x_icmp_lt C 20 dX5_putNow_11 (by decide) (fun c11 => ?_) (fun c11 => ?_)
    · refine x_bipush C (v := (-2)) dX5_putNow_20 (by decide +kernel) ?_
      exact x_iret E .int dX5_putNow_22 rfl rfl rfl rfl
    · refine x_iload_n C dX5_putNow_14 rfl ?_
      refine x_bipush C (v := nI 7) dX5_putNow_15 (by decide +kernel) ?_
      refine x_icmp_le C 23 dX5_putNow_17 (by decide) (fun c17 => ?_) (fun c17 => ?_)
      · exact absurd hx (fun q => q.elim c11 (fun z => absurd c17 (Int32.not_le.mpr z)))
      · refine x_bipush C (v := (-2)) dX5_putNow_20 (by decide +kernel) ?_
        exact x_iret E .int dX5_putNow_22 rfl rfl rfl rfl
  · cases c4
set_option maxHeartbeats 4000000 in
set_option maxRecDepth 100000 in
theorem okX5_putNow_c {a b c d : qP} {Hs : qHs} {T : qTs} {L : qLs} {S : qSs} {ms : qms} {mr : qmr} {mm : qmm} {ml : qml} {mt : qmt} {sv : Bool} {cm r1 d1 f1 : Int32} (ha : ∀ i, a.1 i < 8) {v i : Nat} (hv1 : 1 ≤ v) (hv7 : v ≤ 7) (hi : i < 25) : Ok MX5_putNow [.ref 0, .int (nI v), .int (nI i)] (HH (a, b, c, d) Hs T L S (sv, cm, r1, d1, f1) ms mr mm ml mt) (some (.int (putC a v i).1)) (HH ((putC a v i).2.2, b, c, d) Hs T L S (refP (sv, cm, r1, d1, f1) (putC a v i)) ms mr mm ml mt) := by
  refine ok_of (by decide +kernel) (Nat.zero_le _) (Nat.le_of_ble_eq_true rfl) ?_
  intro X C E
  show Ex X MX5_putNow 0 [(0, .ref 0), (1, .int (nI v)), (2, .int (nI i))] [] (HH (a, b, c, d) Hs T L S (sv, cm, r1, d1, f1) ms mr mm ml mt)
  have hai := ha i
  refine x_iload_n C dX5_putNow_0 rfl ?_
  refine x_callS1i C (okX5_isSquare _ _) lkX5_95 miX5_isSquare mtX5_isSquare maX5_isSquare ⟨Nat.le_of_ble_eq_true rfl, Nat.le_of_ble_eq_true rfl⟩ (Nat.le_of_ble_eq_true rfl) dX5_putNow_1 ?_
  rw [isSq_nI (by omega), decide_eq_true hi]
  refine x_if_neB C 9 dX5_putNow_4 (by decide) (fun c4 => ?_) (fun c4 => ?_)
  · refine x_iload_n C dX5_putNow_9 rfl ?_
    refine x_iconst C (v := nI 1) dX5_putNow_10 (by decide +kernel) ?_
    refine x_icmp_ltN C 20 dX5_putNow_11 (by decide) (by omega) (by omega) (fun c11 => ?_) (fun c11 => ?_)
    · exact absurd c11 (by omega)
    · refine x_iload_n C dX5_putNow_14 rfl ?_
      refine x_bipush C (v := nI 7) dX5_putNow_15 (by decide +kernel) ?_
      refine x_icmp_leN C 23 dX5_putNow_17 (by decide) (by omega) (by omega) (fun c17 => ?_) (fun c17 => ?_)
      · refine x_aload_n C dX5_putNow_23 rfl ?_
        refine x_getfield C qk5 0 (by decide) lfX5_12 dX5_putNow_24 rfl rfl ?_
        refine x_iload_n C dX5_putNow_27 rfl ?_
        refine x_callV1i C (okX3_manOn PosA_now hi) lkX5_99 miX3_manOn msX3_manOn maX3_manOn ⟨Nat.le_of_ble_eq_true rfl, Nat.le_of_ble_eq_true rfl⟩ (Nat.le_of_ble_eq_true rfl) rfl rfl dX5_putNow_28 ?_
        refine x_if_eqN C 48 dX5_putNow_31 (by decide) (by omega) (fun c31 => ?_) (fun c31 => ?_)
        · refine x_iload_n C dX5_putNow_48 rfl ?_
          refine x_callS1i C (okX5_isKing _ (by omega) _) lkX5_164 miX5_isKing mtX5_isKing maX5_isKing ⟨Nat.le_of_ble_eq_true rfl, Nat.le_of_ble_eq_true rfl⟩ (Nat.le_of_ble_eq_true rfl) dX5_putNow_49 ?_
          refine x_if_eqB C 80 dX5_putNow_52 (by decide) (fun c52 => ?_) (fun c52 => ?_)
          · have hnk : ¬ (isK v = true ∧ loc7 a.1 v ≠ none) := by
              intro q
              first
                | exact q.2 c63n
                | (rw [c52] at q; cases q.1)
            refine x_aload_n C dX5_putNow_80 rfl ?_
            refine x_getfield C qk5 0 (by decide) lfX5_12 dX5_putNow_81 rfl rfl ?_
            refine x_callV0i C (okX3_countAll PosA_now ha) lkX5_228 miX3_countAll msX3_countAll maX3_countAll ⟨Nat.le_of_ble_eq_true rfl, Nat.le_of_ble_eq_true rfl⟩ (Nat.le_of_ble_eq_true rfl) rfl rfl dX5_putNow_84 ?_
            refine x_bipush C (v := nI 12) dX5_putNow_87 (by decide +kernel) ?_
            refine x_icmp_ltN C 100 dX5_putNow_89 (by decide) (by first | omega | (have := menN_le a.1; exact Nat.lt_of_le_of_lt this (by decide))) (by first | omega | (have := menN_le a.1; exact Nat.lt_of_le_of_lt this (by decide))) (fun c89 => ?_) (fun c89 => ?_)
            · have e1 : putC a v i = (nI (menN (up a.1 i v)), none, (up a.1 i v, a.2)) := by unfold putC; rw [if_neg (by omega), if_neg hnk, if_neg (show ¬ 12 ≤ menN a.1 from Nat.not_le.mpr c89)]
              refine x_aload_n C dX5_putNow_100 rfl ?_
              refine x_getfield C qk5 0 (by decide) lfX5_12 dX5_putNow_101 rfl rfl ?_
              refine x_iload_n C dX5_putNow_104 rfl ?_
              refine x_iload_n C dX5_putNow_105 rfl ?_
              refine x_callV2v C (okX3_setMan PosA_now hi v) lkX5_167 miX3_setMan msX3_setMan maX3_setMan ⟨Nat.le_of_ble_eq_true rfl, Nat.le_of_ble_eq_true rfl⟩ (Nat.le_of_ble_eq_true rfl) rfl rfl dX5_putNow_106 ?_
              refine x_heap (h2 := HH ((up a.1 i v, a.2), b, c, d) Hs T L S (sv, cm, r1, d1, f1) ms mr mm ml mt) (by rfl) ?_
              refine x_aload_n C dX5_putNow_109 rfl ?_
              refine x_getfield C qk5 0 (by decide) lfX5_12 dX5_putNow_110 rfl rfl ?_
              refine x_callV0i C (okX3_countAll (b := up a.1 i v) PosA_now (up_lt ha (by omega))) lkX5_228 miX3_countAll msX3_countAll maX3_countAll ⟨Nat.le_of_ble_eq_true rfl, Nat.le_of_ble_eq_true rfl⟩ (Nat.le_of_ble_eq_true rfl) rfl rfl dX5_putNow_113 ?_
              exact x_iret E .int dX5_putNow_116 rfl rfl (by rw [e1]; rfl) (by rw [e1]; rfl)
            · have e1 : putC a v i = (-3, some (nI 3, nI 12), a) := by unfold putC; rw [if_neg (by omega), if_neg hnk, if_pos (show 12 ≤ menN a.1 from Nat.not_lt.mp c89)]
              refine x_aload_n C dX5_putNow_92 rfl ?_
              refine x_iconst C (v := nI 3) dX5_putNow_93 (by decide +kernel) ?_
              refine x_bipush C (v := nI 12) dX5_putNow_94 (by decide +kernel) ?_
              refine x_callV2i C (okX5_refuse _ _) lkX5_272 miX5_refuse msX5_refuse maX5_refuse ⟨Nat.le_of_ble_eq_true rfl, Nat.le_of_ble_eq_true rfl⟩ (Nat.le_of_ble_eq_true rfl) rfl rfl dX5_putNow_96 ?_
              exact x_iret E .int dX5_putNow_99 rfl rfl (by rw [e1]) (by rw [e1]; rfl)
          · refine x_aload_n C dX5_putNow_55 rfl ?_
            refine x_getfield C qk5 0 (by decide) lfX5_12 dX5_putNow_56 rfl rfl ?_
            refine x_iload_n C dX5_putNow_59 rfl ?_
            refine x_callV1i C (okX3_squareOf PosA_now ha _ (by omega)) lkX5_136 miX3_squareOf msX3_squareOf maX3_squareOf ⟨Nat.le_of_ble_eq_true rfl, Nat.le_of_ble_eq_true rfl⟩ (Nat.le_of_ble_eq_true rfl) rfl rfl dX5_putNow_60 ?_
            refine x_if_lt C 80 dX5_putNow_63 (by decide) (fun c63 => ?_) (fun c63 => ?_)
            · have c63n := sqI_neg7.mp c63
              have hnk : ¬ (isK v = true ∧ loc7 a.1 v ≠ none) := by
                intro q
                first
                  | exact q.2 c63n
                  | (rw [c52] at q; cases q.1)
              refine x_aload_n C dX5_putNow_80 rfl ?_
              refine x_getfield C qk5 0 (by decide) lfX5_12 dX5_putNow_81 rfl rfl ?_
              refine x_callV0i C (okX3_countAll PosA_now ha) lkX5_228 miX3_countAll msX3_countAll maX3_countAll ⟨Nat.le_of_ble_eq_true rfl, Nat.le_of_ble_eq_true rfl⟩ (Nat.le_of_ble_eq_true rfl) rfl rfl dX5_putNow_84 ?_
              refine x_bipush C (v := nI 12) dX5_putNow_87 (by decide +kernel) ?_
              refine x_icmp_ltN C 100 dX5_putNow_89 (by decide) (by first | omega | (have := menN_le a.1; exact Nat.lt_of_le_of_lt this (by decide))) (by first | omega | (have := menN_le a.1; exact Nat.lt_of_le_of_lt this (by decide))) (fun c89 => ?_) (fun c89 => ?_)
              · have e1 : putC a v i = (nI (menN (up a.1 i v)), none, (up a.1 i v, a.2)) := by unfold putC; rw [if_neg (by omega), if_neg hnk, if_neg (show ¬ 12 ≤ menN a.1 from Nat.not_le.mpr c89)]
                refine x_aload_n C dX5_putNow_100 rfl ?_
                refine x_getfield C qk5 0 (by decide) lfX5_12 dX5_putNow_101 rfl rfl ?_
                refine x_iload_n C dX5_putNow_104 rfl ?_
                refine x_iload_n C dX5_putNow_105 rfl ?_
                refine x_callV2v C (okX3_setMan PosA_now hi v) lkX5_167 miX3_setMan msX3_setMan maX3_setMan ⟨Nat.le_of_ble_eq_true rfl, Nat.le_of_ble_eq_true rfl⟩ (Nat.le_of_ble_eq_true rfl) rfl rfl dX5_putNow_106 ?_
                refine x_heap (h2 := HH ((up a.1 i v, a.2), b, c, d) Hs T L S (sv, cm, r1, d1, f1) ms mr mm ml mt) (by rfl) ?_
                refine x_aload_n C dX5_putNow_109 rfl ?_
                refine x_getfield C qk5 0 (by decide) lfX5_12 dX5_putNow_110 rfl rfl ?_
                refine x_callV0i C (okX3_countAll (b := up a.1 i v) PosA_now (up_lt ha (by omega))) lkX5_228 miX3_countAll msX3_countAll maX3_countAll ⟨Nat.le_of_ble_eq_true rfl, Nat.le_of_ble_eq_true rfl⟩ (Nat.le_of_ble_eq_true rfl) rfl rfl dX5_putNow_113 ?_
                exact x_iret E .int dX5_putNow_116 rfl rfl (by rw [e1]; rfl) (by rw [e1]; rfl)
              · have e1 : putC a v i = (-3, some (nI 3, nI 12), a) := by unfold putC; rw [if_neg (by omega), if_neg hnk, if_pos (show 12 ≤ menN a.1 from Nat.not_lt.mp c89)]
                refine x_aload_n C dX5_putNow_92 rfl ?_
                refine x_iconst C (v := nI 3) dX5_putNow_93 (by decide +kernel) ?_
                refine x_bipush C (v := nI 12) dX5_putNow_94 (by decide +kernel) ?_
                refine x_callV2i C (okX5_refuse _ _) lkX5_272 miX5_refuse msX5_refuse maX5_refuse ⟨Nat.le_of_ble_eq_true rfl, Nat.le_of_ble_eq_true rfl⟩ (Nat.le_of_ble_eq_true rfl) rfl rfl dX5_putNow_96 ?_
                exact x_iret E .int dX5_putNow_99 rfl rfl (by rw [e1]) (by rw [e1]; rfl)
            · have c63s : loc7 a.1 v ≠ none := fun z => c63 (sqI_neg7.mpr z)
              have e1 : putC a v i = (-3, some (nI 2, sqI (loc7 a.1 v)), a) := by unfold putC; rw [if_neg (by omega), if_pos ⟨c52, c63s⟩]
              refine x_aload_n C dX5_putNow_66 rfl ?_
              refine x_iconst C (v := nI 2) dX5_putNow_67 (by decide +kernel) ?_
              refine x_aload_n C dX5_putNow_68 rfl ?_
              refine x_getfield C qk5 0 (by decide) lfX5_12 dX5_putNow_69 rfl rfl ?_
              refine x_iload_n C dX5_putNow_72 rfl ?_
              refine x_callV1i C (okX3_squareOf PosA_now ha _ (by omega)) lkX5_136 miX3_squareOf msX3_squareOf maX3_squareOf ⟨Nat.le_of_ble_eq_true rfl, Nat.le_of_ble_eq_true rfl⟩ (Nat.le_of_ble_eq_true rfl) rfl rfl dX5_putNow_73 ?_
              refine x_callV2i C (okX5_refuse _ _) lkX5_272 miX5_refuse msX5_refuse maX5_refuse ⟨Nat.le_of_ble_eq_true rfl, Nat.le_of_ble_eq_true rfl⟩ (Nat.le_of_ble_eq_true rfl) rfl rfl dX5_putNow_76 ?_
              exact x_iret E .int dX5_putNow_79 rfl rfl (by rw [e1]) (by rw [e1]; rfl)
        · have e1 : putC a v i = (-3, some (nI 1, nI (a.1 i)), a) := by unfold putC; rw [if_pos c31]
          refine x_aload_n C dX5_putNow_34 rfl ?_
          refine x_iconst C (v := nI 1) dX5_putNow_35 (by decide +kernel) ?_
          refine x_aload_n C dX5_putNow_36 rfl ?_
          refine x_getfield C qk5 0 (by decide) lfX5_12 dX5_putNow_37 rfl rfl ?_
          refine x_iload_n C dX5_putNow_40 rfl ?_
          refine x_callV1i C (okX3_manOn PosA_now hi) lkX5_99 miX3_manOn msX3_manOn maX3_manOn ⟨Nat.le_of_ble_eq_true rfl, Nat.le_of_ble_eq_true rfl⟩ (Nat.le_of_ble_eq_true rfl) rfl rfl dX5_putNow_41 ?_
          refine x_callV2i C (okX5_refuse _ _) lkX5_272 miX5_refuse msX5_refuse maX5_refuse ⟨Nat.le_of_ble_eq_true rfl, Nat.le_of_ble_eq_true rfl⟩ (Nat.le_of_ble_eq_true rfl) rfl rfl dX5_putNow_44 ?_
          exact x_iret E .int dX5_putNow_47 rfl rfl (by rw [e1]) (by rw [e1]; rfl)
      · exact absurd hv7 c17
  · cases c4
set_option maxHeartbeats 4000000 in
set_option maxRecDepth 100000 in
theorem okX5_liftNow_a {a b c d : qP} {Hs : qHs} {T : qTs} {L : qLs} {S : qSs} {V : qVs} {ms : qms} {mr : qmr} {mm : qmm} {ml : qml} {mt : qmt} (y : Int32) (hy : isSq y = false) : Ok MX5_liftNow [.ref 0, .int y] (HH (a, b, c, d) Hs T L S V ms mr mm ml mt) (some (.int (-1))) (HH (a, b, c, d) Hs T L S V ms mr mm ml mt) := by
  refine ok_of (by decide +kernel) (Nat.zero_le _) (Nat.le_of_ble_eq_true rfl) ?_
  intro X C E
  show Ex X MX5_liftNow 0 [(0, .ref 0), (1, .int y)] [] (HH (a, b, c, d) Hs T L S V ms mr mm ml mt)
  refine x_iload_n C dX5_liftNow_0 rfl ?_
  refine x_callS1i C (okX5_isSquare _ _) lkX5_95 miX5_isSquare mtX5_isSquare maX5_isSquare ⟨Nat.le_of_ble_eq_true rfl, Nat.le_of_ble_eq_true rfl⟩ (Nat.le_of_ble_eq_true rfl) dX5_liftNow_1 ?_
  rw [hy]
  refine x_if_neB C 9 dX5_liftNow_4 (by decide) (fun c4 => ?_) (fun c4 => ?_)
  · cases c4
  · refine x_iconst C (v := (-1)) dX5_liftNow_7 (by decide +kernel) ?_
    exact x_iret E .int dX5_liftNow_8 rfl rfl rfl rfl
set_option maxHeartbeats 4000000 in
set_option maxRecDepth 100000 in
theorem okX5_liftNow_c {a b c d : qP} {Hs : qHs} {T : qTs} {L : qLs} {S : qSs} {ms : qms} {mr : qmr} {mm : qmm} {ml : qml} {mt : qmt} {sv : Bool} {cm r1 d1 f1 : Int32} (ha : ∀ i, a.1 i < 8) {i : Nat} (hi : i < 25) : Ok MX5_liftNow [.ref 0, .int (nI i)] (HH (a, b, c, d) Hs T L S (sv, cm, r1, d1, f1) ms mr mm ml mt) (some (.int (liftC a i).1)) (HH ((liftC a i).2.2, b, c, d) Hs T L S (refP (sv, cm, r1, d1, f1) (liftC a i)) ms mr mm ml mt) := by
  refine ok_of (by decide +kernel) (Nat.zero_le _) (Nat.le_of_ble_eq_true rfl) ?_
  intro X C E
  show Ex X MX5_liftNow 0 [(0, .ref 0), (1, .int (nI i))] [] (HH (a, b, c, d) Hs T L S (sv, cm, r1, d1, f1) ms mr mm ml mt)
  have hai := ha i
  refine x_iload_n C dX5_liftNow_0 rfl ?_
  refine x_callS1i C (okX5_isSquare _ _) lkX5_95 miX5_isSquare mtX5_isSquare maX5_isSquare ⟨Nat.le_of_ble_eq_true rfl, Nat.le_of_ble_eq_true rfl⟩ (Nat.le_of_ble_eq_true rfl) dX5_liftNow_1 ?_
  rw [isSq_nI (by omega), decide_eq_true hi]
  refine x_if_neB C 9 dX5_liftNow_4 (by decide) (fun c4 => ?_) (fun c4 => ?_)
  · refine x_aload_n C dX5_liftNow_9 rfl ?_
    refine x_getfield C qk5 0 (by decide) lfX5_12 dX5_liftNow_10 rfl rfl ?_
    refine x_iload_n C dX5_liftNow_13 rfl ?_
    refine x_callV1i C (okX3_manOn PosA_now hi) lkX5_99 miX3_manOn msX3_manOn maX3_manOn ⟨Nat.le_of_ble_eq_true rfl, Nat.le_of_ble_eq_true rfl⟩ (Nat.le_of_ble_eq_true rfl) rfl rfl dX5_liftNow_14 ?_
    refine x_istore_n C dX5_liftNow_17 (by decide) [(2, _), (0, _), (1, _)] rfl ?_
    refine x_iload_n C dX5_liftNow_18 rfl ?_
    refine x_if_neN C 29 dX5_liftNow_19 (by decide) (by omega) (fun c19 => ?_) (fun c19 => ?_)
    · have e1 : liftC a i = (nI (a.1 i), none, (up a.1 i 0, a.2)) := by unfold liftC; rw [if_neg c19]
      refine x_aload_n C dX5_liftNow_29 rfl ?_
      refine x_getfield C qk5 0 (by decide) lfX5_12 dX5_liftNow_30 rfl rfl ?_
      refine x_iload_n C dX5_liftNow_33 rfl ?_
      refine x_iconst C (v := nI 0) dX5_liftNow_34 (by decide +kernel) ?_
      refine x_callV2v C (okX3_setMan PosA_now hi 0) lkX5_167 miX3_setMan msX3_setMan maX3_setMan ⟨Nat.le_of_ble_eq_true rfl, Nat.le_of_ble_eq_true rfl⟩ (Nat.le_of_ble_eq_true rfl) rfl rfl dX5_liftNow_35 ?_
      refine x_heap (h2 := HH ((up a.1 i 0, a.2), b, c, d) Hs T L S (sv, cm, r1, d1, f1) ms mr mm ml mt) (by rfl) ?_
      refine x_iload_n C dX5_liftNow_38 rfl ?_
      exact x_iret E .int dX5_liftNow_39 rfl rfl (by rw [e1]) (by rw [e1]; rfl)
    · have e1 : liftC a i = (-3, some (nI 4, nI i), a) := by unfold liftC; rw [if_pos c19]
      refine x_aload_n C dX5_liftNow_22 rfl ?_
      refine x_iconst C (v := nI 4) dX5_liftNow_23 (by decide +kernel) ?_
      refine x_iload_n C dX5_liftNow_24 rfl ?_
      refine x_callV2i C (okX5_refuse _ _) lkX5_272 miX5_refuse msX5_refuse maX5_refuse ⟨Nat.le_of_ble_eq_true rfl, Nat.le_of_ble_eq_true rfl⟩ (Nat.le_of_ble_eq_true rfl) rfl rfl dX5_liftNow_25 ?_
      exact x_iret E .int dX5_liftNow_28 rfl rfl (by rw [e1]) (by rw [e1]; rfl)
  · cases c4
set_option maxHeartbeats 4000000 in
set_option maxRecDepth 100000 in
theorem okX5_playNow_a {a b c d : qP} {Hs : qHs} {T : qTs} {L : qLs} {S : qSs} {V : qVs} {ms : qms} {mr : qmr} {mm : qmm} {ml : qml} {mt : qmt} (x y : Int32) (hy : isSq x = false ∨ isSq y = false) : Ok MX5_playNow [.ref 0, .int x, .int y] (HH (a, b, c, d) Hs T L S V ms mr mm ml mt) (some (.int (-1))) (HH (a, b, c, d) Hs T L S V ms mr mm ml mt) := by
  refine ok_of (by decide +kernel) (Nat.zero_le _) (Nat.le_of_ble_eq_true rfl) ?_
  intro X C E
  show Ex X MX5_playNow 0 [(0, .ref 0), (1, .int x), (2, .int y)] [] (HH (a, b, c, d) Hs T L S V ms mr mm ml mt)
  refine x_iload_n C dX5_playNow_0 rfl ?_
  refine x_callS1i C (okX5_isSquare _ _) lkX5_95 miX5_isSquare mtX5_isSquare maX5_isSquare ⟨Nat.le_of_ble_eq_true rfl, Nat.le_of_ble_eq_true rfl⟩ (Nat.le_of_ble_eq_true rfl) dX5_playNow_1 ?_
  refine x_if_eqB C 14 dX5_playNow_4 (by decide) (fun c4 => ?_) (fun c4 => ?_)
  · refine x_iconst C (v := (-1)) dX5_playNow_14 (by decide +kernel) ?_
    exact x_iret E .int dX5_playNow_15 rfl rfl rfl rfl
  · refine x_iload_n C dX5_playNow_7 rfl ?_
    refine x_callS1i C (okX5_isSquare _ _) lkX5_95 miX5_isSquare mtX5_isSquare maX5_isSquare ⟨Nat.le_of_ble_eq_true rfl, Nat.le_of_ble_eq_true rfl⟩ (Nat.le_of_ble_eq_true rfl) dX5_playNow_8 ?_
    refine x_if_neB C 16 dX5_playNow_11 (by decide) (fun c11 => ?_) (fun c11 => ?_)
    · rcases hy with hy | hy
      · rw [c4] at hy; cases hy
      · rw [c11] at hy; cases hy
    · refine x_iconst C (v := (-1)) dX5_playNow_14 (by decide +kernel) ?_
      exact x_iret E .int dX5_playNow_15 rfl rfl rfl rfl
set_option maxHeartbeats 4000000 in
set_option maxRecDepth 100000 in
theorem okX5_playNow_c {a b c d : qP} {Hs : qHs} {T : qTs} {L : qLs} {S : qSs} {ms : qms} {mr : qmr} {mm : qmm} {ml : qml} {mt : qmt} {sv : Bool} {cm r1 d1 f1 : Int32} (ha : ∀ i, a.1 i < 8) {i j : Nat} (hi : i < 25) (hj : j < 25) : Ok MX5_playNow [.ref 0, .int (nI i), .int (nI j)] (HH (a, b, c, d) Hs T L S (sv, cm, r1, d1, f1) ms mr mm ml mt) (some (.int (playC a i j).1)) (HH ((playC a i j).2.2, b, c, d) Hs T L S (refP (sv, cm, r1, d1, f1) (playC a i j)) ms mr mm ml mt) := by
  refine ok_of (by decide +kernel) (Nat.zero_le _) (Nat.le_of_ble_eq_true rfl) ?_
  intro X C E
  show Ex X MX5_playNow 0 [(0, .ref 0), (1, .int (nI i)), (2, .int (nI j))] [] (HH (a, b, c, d) Hs T L S (sv, cm, r1, d1, f1) ms mr mm ml mt)
  have hai := ha i
  have haj := ha j
  refine x_iload_n C dX5_playNow_0 rfl ?_
  refine x_callS1i C (okX5_isSquare _ _) lkX5_95 miX5_isSquare mtX5_isSquare maX5_isSquare ⟨Nat.le_of_ble_eq_true rfl, Nat.le_of_ble_eq_true rfl⟩ (Nat.le_of_ble_eq_true rfl) dX5_playNow_1 ?_
  rw [isSq_nI (by omega), decide_eq_true hi]
  refine x_if_eqB C 14 dX5_playNow_4 (by decide) (fun c4 => ?_) (fun c4 => ?_)
  · cases c4
  · refine x_iload_n C dX5_playNow_7 rfl ?_
    refine x_callS1i C (okX5_isSquare _ _) lkX5_95 miX5_isSquare mtX5_isSquare maX5_isSquare ⟨Nat.le_of_ble_eq_true rfl, Nat.le_of_ble_eq_true rfl⟩ (Nat.le_of_ble_eq_true rfl) dX5_playNow_8 ?_
    rw [isSq_nI (by omega), decide_eq_true hj]
    refine x_if_neB C 16 dX5_playNow_11 (by decide) (fun c11 => ?_) (fun c11 => ?_)
    · refine x_aload_n C dX5_playNow_16 rfl ?_
      refine x_getfield C qk5 0 (by decide) lfX5_12 dX5_playNow_17 rfl rfl ?_
      refine x_iload_n C dX5_playNow_20 rfl ?_
      refine x_callV1i C (okX3_manOn PosA_now hi) lkX5_99 miX3_manOn msX3_manOn maX3_manOn ⟨Nat.le_of_ble_eq_true rfl, Nat.le_of_ble_eq_true rfl⟩ (Nat.le_of_ble_eq_true rfl) rfl rfl dX5_playNow_21 ?_
      refine x_istore_n C dX5_playNow_24 (by decide) [(3, _), (0, _), (1, _), (2, _)] rfl ?_
      refine x_iload_n C dX5_playNow_25 rfl ?_
      refine x_if_neN C 36 dX5_playNow_26 (by decide) (by omega) (fun c26 => ?_) (fun c26 => ?_)
      · refine x_aload_n C dX5_playNow_36 rfl ?_
        refine x_getfield C qk5 0 (by decide) lfX5_12 dX5_playNow_37 rfl rfl ?_
        refine x_iload_n C dX5_playNow_40 rfl ?_
        refine x_iload_n C dX5_playNow_41 rfl ?_
        refine x_callV2i C (okX3_hasMove PosA_now ha hi hj) lkX5_145 miX3_hasMove msX3_hasMove maX3_hasMove ⟨Nat.le_of_ble_eq_true rfl, Nat.le_of_ble_eq_true rfl⟩ (Nat.le_of_ble_eq_true rfl) rfl rfl dX5_playNow_42 ?_
        refine x_if_neB C 55 dX5_playNow_45 (by decide) (fun c45 => ?_) (fun c45 => ?_)
        · have e1 : playC a i j = (nI (a.1 j), none, (aft a.1 i j, a.2.1 + 1, a.2.2.1 + (if a.1 j = 6 then 1 else 0), a.2.2.2)) := by unfold playC; rw [if_neg c26, if_neg (by rw [c45]; decide)]
          refine x_aload_n C dX5_playNow_55 rfl ?_
          refine x_getfield C qk5 0 (by decide) lfX5_12 dX5_playNow_56 rfl rfl ?_
          refine x_iload_n C dX5_playNow_59 rfl ?_
          refine x_callV1i C (okX3_manOn PosA_now hj) lkX5_99 miX3_manOn msX3_manOn maX3_manOn ⟨Nat.le_of_ble_eq_true rfl, Nat.le_of_ble_eq_true rfl⟩ (Nat.le_of_ble_eq_true rfl) rfl rfl dX5_playNow_60 ?_
          refine x_istore C dX5_playNow_63 (by decide) [(4, _), (3, _), (0, _), (1, _), (2, _)] rfl ?_
          refine x_aload_n C dX5_playNow_65 rfl ?_
          refine x_getfield C qk5 0 (by decide) lfX5_12 dX5_playNow_66 rfl rfl ?_
          refine x_iload_n C dX5_playNow_69 rfl ?_
          refine x_iconst C (v := nI 0) dX5_playNow_70 (by decide +kernel) ?_
          refine x_callV2v C (okX3_setMan PosA_now hi 0) lkX5_167 miX3_setMan msX3_setMan maX3_setMan ⟨Nat.le_of_ble_eq_true rfl, Nat.le_of_ble_eq_true rfl⟩ (Nat.le_of_ble_eq_true rfl) rfl rfl dX5_playNow_71 ?_
          refine x_heap (h2 := HH ((up a.1 i 0, a.2.1, a.2.2.1, a.2.2.2), b, c, d) Hs T L S (sv, cm, r1, d1, f1) ms mr mm ml mt) (by rfl) ?_
          refine x_aload_n C dX5_playNow_74 rfl ?_
          refine x_getfield C qk5 0 (by decide) lfX5_12 dX5_playNow_75 rfl rfl ?_
          refine x_iload_n C dX5_playNow_78 rfl ?_
          refine x_iload_n C dX5_playNow_79 rfl ?_
          refine x_callV2v C (okX3_setMan (b := up a.1 i 0) PosA_now hj (a.1 i)) lkX5_167 miX3_setMan msX3_setMan maX3_setMan ⟨Nat.le_of_ble_eq_true rfl, Nat.le_of_ble_eq_true rfl⟩ (Nat.le_of_ble_eq_true rfl) rfl rfl dX5_playNow_80 ?_
          refine x_heap (h2 := HH ((aft a.1 i j, a.2.1, a.2.2.1, a.2.2.2), b, c, d) Hs T L S (sv, cm, r1, d1, f1) ms mr mm ml mt) (by rfl) ?_
          refine x_aload_n C dX5_playNow_83 rfl ?_
          refine x_getfield C qk5 0 (by decide) lfX5_12 dX5_playNow_84 rfl rfl ?_
          refine x_dup C rfl dX5_playNow_87 ?_
          refine x_getfield C qk3 1 (by decide) lfX5_237 dX5_playNow_88 rfl rfl ?_
          refine x_iconst C (v := nI 1) dX5_playNow_91 (by decide +kernel) ?_
          refine x_iaddN C dX5_playNow_92 ?_
          refine x_putfield C qk3 1 (by decide) lfX5_237 rfl (ty0 := .int) (by decide +kernel) rfl rfl dX5_playNow_93 rfl (Nat.le_of_ble_eq_true rfl) ?_
          refine x_heap (h2 := HH ((aft a.1 i j, a.2.1 + 1, a.2.2.1, a.2.2.2), b, c, d) Hs T L S (sv, cm, r1, d1, f1) ms mr mm ml mt) (by rfl) ?_
          refine x_iload C dX5_playNow_96 rfl ?_
          refine x_bipush C (v := nI 6) dX5_playNow_98 (by decide +kernel) ?_
          refine x_icmp_neN C 116 dX5_playNow_100 (by decide) (by omega) (by omega) (fun c100 => ?_) (fun c100 => ?_)
          · refine x_iload C dX5_playNow_116 rfl ?_
            exact x_iret E .int dX5_playNow_118 rfl rfl (by rw [e1]) (by rw [e1, if_neg c100]; rfl)
          · refine x_aload_n C dX5_playNow_103 rfl ?_
            refine x_getfield C qk5 0 (by decide) lfX5_12 dX5_playNow_104 rfl rfl ?_
            refine x_dup C rfl dX5_playNow_107 ?_
            refine x_getfield C qk3 2 (by decide) lfX5_240 dX5_playNow_108 rfl rfl ?_
            refine x_iconst C (v := nI 1) dX5_playNow_111 (by decide +kernel) ?_
            refine x_iaddN C dX5_playNow_112 ?_
            refine x_putfield C qk3 2 (by decide) lfX5_240 rfl (ty0 := .int) (by decide +kernel) rfl rfl dX5_playNow_113 rfl (Nat.le_of_ble_eq_true rfl) ?_
            refine x_heap (h2 := HH ((aft a.1 i j, a.2.1 + 1, a.2.2.1 + 1, a.2.2.2), b, c, d) Hs T L S (sv, cm, r1, d1, f1) ms mr mm ml mt) (by rfl) ?_
            refine x_iload C dX5_playNow_116 rfl ?_
            exact x_iret E .int dX5_playNow_118 rfl rfl (by rw [e1]) (by rw [e1, if_pos c100]; rfl)
        · have e1 : playC a i j = (-3, some (nI 5, nI (a.1 i)), a) := by unfold playC; rw [if_neg c26, if_pos c45]
          refine x_aload_n C dX5_playNow_48 rfl ?_
          refine x_iconst C (v := nI 5) dX5_playNow_49 (by decide +kernel) ?_
          refine x_iload_n C dX5_playNow_50 rfl ?_
          refine x_callV2i C (okX5_refuse _ _) lkX5_272 miX5_refuse msX5_refuse maX5_refuse ⟨Nat.le_of_ble_eq_true rfl, Nat.le_of_ble_eq_true rfl⟩ (Nat.le_of_ble_eq_true rfl) rfl rfl dX5_playNow_51 ?_
          exact x_iret E .int dX5_playNow_54 rfl rfl (by rw [e1]) (by rw [e1]; rfl)
      · have e1 : playC a i j = (-3, some (nI 4, nI i), a) := by unfold playC; rw [if_pos c26]
        refine x_aload_n C dX5_playNow_29 rfl ?_
        refine x_iconst C (v := nI 4) dX5_playNow_30 (by decide +kernel) ?_
        refine x_iload_n C dX5_playNow_31 rfl ?_
        refine x_callV2i C (okX5_refuse _ _) lkX5_272 miX5_refuse msX5_refuse maX5_refuse ⟨Nat.le_of_ble_eq_true rfl, Nat.le_of_ble_eq_true rfl⟩ (Nat.le_of_ble_eq_true rfl) rfl rfl dX5_playNow_32 ?_
        exact x_iret E .int dX5_playNow_35 rfl rfl (by rw [e1]) (by rw [e1]; rfl)
    · cases c11
