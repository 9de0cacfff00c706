/-! the reference: the calls that change -/
set_option maxHeartbeats 4000000 in
set_option maxRecDepth 100000 in
theorem okX6_put {P : qPs} {Hs : qHs} {T : qTs} {L : qLs} {S : qSs} {V : qVs} {ml : qml} {mt : qmt} {bf sv past : Nat → Nat} {isv : Bool} {pm : Nat} {mm : qmm} {mr : qmr} {a : qP} (hg : PG a) (hp : pm ≤ 8) (x y : Int32) : Ok MX6_put [.ref 40, .int x, .int y] (HH P Hs T L S V (sF a, bf, sv, past, isv, pm) mr mm ml mt) (some (.int (putF a x y).1)) (HH P Hs T L S V (sF (putF a x y).2.2, (cpB (sF a) bf 0 0 29), sv, paO past (cpB (sF a) bf 0 0 29) pm (putF a x y).1, isv, pmO pm (putF a x y).1) (refR mr (putF a x y).2.1) mm ml mt) := by
  refine ok_of (by decide +kernel) (Nat.zero_le _) (Nat.le_of_ble_eq_true rfl) ?_
  intro X C E
  show Ex X MX6_put 0 [(0, .ref 40), (1, .int x), (2, .int y)] [] (HH P Hs T L S V (sF a, bf, sv, past, isv, pm) mr mm ml mt)
  refine x_aload_n C dX6_put_0 rfl ?_
  refine x_callV0v C okX6_keep lkX6_80 miX6_keep msX6_keep maX6_keep ⟨Nat.le_of_ble_eq_true rfl, Nat.le_of_ble_eq_true rfl⟩ (Nat.le_of_ble_eq_true rfl) rfl rfl dX6_put_1 ?_
  refine x_aload_n C dX6_put_4 rfl ?_
  refine x_aload_n C dX6_put_5 rfl ?_
  refine x_iload_n C dX6_put_6 rfl ?_
  refine x_iload_n C dX6_put_7 rfl ?_
  refine x_callV2i C (okX6_doPutF hg x y) lkX6_83 miX6_doPut msX6_doPut maX6_doPut ⟨Nat.le_of_ble_eq_true rfl, Nat.le_of_ble_eq_true rfl⟩ (Nat.le_of_ble_eq_true rfl) rfl rfl dX6_put_8 ?_
  refine x_callV1i C (okX6_endsF hp _) lkX6_86 miX6_ends msX6_ends maX6_ends ⟨Nat.le_of_ble_eq_true rfl, Nat.le_of_ble_eq_true rfl⟩ (Nat.le_of_ble_eq_true rfl) rfl rfl dX6_put_11 ?_
  rw [endS putF_neg]
  exact x_iret E .int dX6_put_14 rfl rfl rfl rfl
set_option maxHeartbeats 4000000 in
set_option maxRecDepth 100000 in
theorem okX6_lift {P : qPs} {Hs : qHs} {T : qTs} {L : qLs} {S : qSs} {V : qVs} {ml : qml} {mt : qmt} {bf sv past : Nat → Nat} {isv : Bool} {pm : Nat} {mm : qmm} {mr : qmr} {a : qP} (hg : PG a) (hp : pm ≤ 8) (y : Int32) : Ok MX6_lift [.ref 40, .int y] (HH P Hs T L S V (sF a, bf, sv, past, isv, pm) mr mm ml mt) (some (.int (liftF a y).1)) (HH P Hs T L S V (sF (liftF a y).2.2, (cpB (sF a) bf 0 0 29), sv, paO past (cpB (sF a) bf 0 0 29) pm (liftF a y).1, isv, pmO pm (liftF a y).1) (refR mr (liftF a y).2.1) mm ml mt) := by
  refine ok_of (by decide +kernel) (Nat.zero_le _) (Nat.le_of_ble_eq_true rfl) ?_
  intro X C E
  show Ex X MX6_lift 0 [(0, .ref 40), (1, .int y)] [] (HH P Hs T L S V (sF a, bf, sv, past, isv, pm) mr mm ml mt)
  refine x_aload_n C dX6_lift_0 rfl ?_
  refine x_callV0v C okX6_keep lkX6_80 miX6_keep msX6_keep maX6_keep ⟨Nat.le_of_ble_eq_true rfl, Nat.le_of_ble_eq_true rfl⟩ (Nat.le_of_ble_eq_true rfl) rfl rfl dX6_lift_1 ?_
  refine x_aload_n C dX6_lift_4 rfl ?_
  refine x_aload_n C dX6_lift_5 rfl ?_
  refine x_iload_n C dX6_lift_6 rfl ?_
  refine x_callV1i C (okX6_doLiftF hg y) lkX6_89 miX6_doLift msX6_doLift maX6_doLift ⟨Nat.le_of_ble_eq_true rfl, Nat.le_of_ble_eq_true rfl⟩ (Nat.le_of_ble_eq_true rfl) rfl rfl dX6_lift_7 ?_
  refine x_callV1i C (okX6_endsF hp _) lkX6_86 miX6_ends msX6_ends maX6_ends ⟨Nat.le_of_ble_eq_true rfl, Nat.le_of_ble_eq_true rfl⟩ (Nat.le_of_ble_eq_true rfl) rfl rfl dX6_lift_10 ?_
  rw [endS (liftF_neg hg.1.1)]
  exact x_iret E .int dX6_lift_13 rfl rfl rfl rfl
set_option maxHeartbeats 4000000 in
set_option maxRecDepth 100000 in
theorem okX6_play {P : qPs} {Hs : qHs} {T : qTs} {L : qLs} {S : qSs} {V : qVs} {ml : qml} {mt : qmt} {bf sv past : Nat → Nat} {isv : Bool} {pm : Nat} {mm : qmm} {mr : qmr} {a : qP} (hg : PG a) (hp : pm ≤ 8) (x y : Int32) : Ok MX6_play [.ref 40, .int x, .int y] (HH P Hs T L S V (sF a, bf, sv, past, isv, pm) mr mm ml mt) (some (.int (playF a x y).1)) (HH P Hs T L S V (sF (playF a x y).2.2, (cpB (sF a) bf 0 0 29), sv, paO past (cpB (sF a) bf 0 0 29) pm (playF a x y).1, isv, pmO pm (playF a x y).1) (refR mr (playF a x y).2.1) mm ml mt) := by
  refine ok_of (by decide +kernel) (Nat.zero_le _) (Nat.le_of_ble_eq_true rfl) ?_
  intro X C E
  show Ex X MX6_play 0 [(0, .ref 40), (1, .int x), (2, .int y)] [] (HH P Hs T L S V (sF a, bf, sv, past, isv, pm) mr mm ml mt)
  refine x_aload_n C dX6_play_0 rfl ?_
  refine x_callV0v C okX6_keep lkX6_80 miX6_keep msX6_keep maX6_keep ⟨Nat.le_of_ble_eq_true rfl, Nat.le_of_ble_eq_true rfl⟩ (Nat.le_of_ble_eq_true rfl) rfl rfl dX6_play_1 ?_
  refine x_aload_n C dX6_play_4 rfl ?_
  refine x_aload_n C dX6_play_5 rfl ?_
  refine x_iload_n C dX6_play_6 rfl ?_
  refine x_iload_n C dX6_play_7 rfl ?_
  refine x_callV2i C (okX6_doPlayF hg x y) lkX6_165 miX6_doPlay msX6_doPlay maX6_doPlay ⟨Nat.le_of_ble_eq_true rfl, Nat.le_of_ble_eq_true rfl⟩ (Nat.le_of_ble_eq_true rfl) rfl rfl dX6_play_8 ?_
  refine x_callV1i C (okX6_endsF hp _) lkX6_86 miX6_ends msX6_ends maX6_ends ⟨Nat.le_of_ble_eq_true rfl, Nat.le_of_ble_eq_true rfl⟩ (Nat.le_of_ble_eq_true rfl) rfl rfl dX6_play_11 ?_
  rw [endS (playF_neg hg.1.1)]
  exact x_iret E .int dX6_play_14 rfl rfl rfl rfl
set_option maxHeartbeats 4000000 in
set_option maxRecDepth 100000 in
theorem okX6_turn {P : qPs} {Hs : qHs} {T : qTs} {L : qLs} {S : qSs} {V : qVs} {ml : qml} {mt : qmt} {bf sv past : Nat → Nat} {isv : Bool} {pm : Nat} {mv ks tn : Nat → Nat} {mn : Nat} {mr : qmr} {a : qP} (hg : PG a) (hp : pm ≤ 8)  : Ok MX6_turn [.ref 40] (HH P Hs T L S V (sF a, bf, sv, past, isv, pm) mr (mv, mn, ks, tn) ml mt) (some (.int (turnF dstT a).1)) (HH P Hs T L S V (sF (turnF dstT a).2.2, (cpB (sF a) bf 0 0 29), sv, paO past (cpB (sF a) bf 0 0 29) pm (turnF dstT a).1, isv, pmO pm (turnF dstT a).1) mr (mv, mn, ks, trR dstT tn (sF a) 25) ml mt) := by
  refine ok_of (by decide +kernel) (Nat.zero_le _) (Nat.le_of_ble_eq_true rfl) ?_
  intro X C E
  show Ex X MX6_turn 0 [(0, .ref 40)] [] (HH P Hs T L S V (sF a, bf, sv, past, isv, pm) mr (mv, mn, ks, tn) ml mt)
  refine x_aload_n C dX6_turn_0 rfl ?_
  refine x_callV0v C okX6_keep lkX6_80 miX6_keep msX6_keep maX6_keep ⟨Nat.le_of_ble_eq_true rfl, Nat.le_of_ble_eq_true rfl⟩ (Nat.le_of_ble_eq_true rfl) rfl rfl dX6_turn_1 ?_
  refine x_aload_n C dX6_turn_4 rfl ?_
  refine x_aload_n C dX6_turn_5 rfl ?_
  refine x_iconst C (v := nI 0) dX6_turn_6 (by decide +kernel) ?_
  refine x_callV1i C (okX6_doTurn_a hg.1) lkX6_168 miX6_doTurn msX6_doTurn maX6_doTurn ⟨Nat.le_of_ble_eq_true rfl, Nat.le_of_ble_eq_true rfl⟩ (Nat.le_of_ble_eq_true rfl) rfl rfl dX6_turn_7 ?_
  refine x_callV1i C (okX6_endsF hp _) lkX6_86 miX6_ends msX6_ends maX6_ends ⟨Nat.le_of_ble_eq_true rfl, Nat.le_of_ble_eq_true rfl⟩ (Nat.le_of_ble_eq_true rfl) rfl rfl dX6_turn_10 ?_
  rw [endS turnF_neg]
  exact x_iret E .int dX6_turn_13 rfl rfl rfl rfl
set_option maxHeartbeats 4000000 in
set_option maxRecDepth 100000 in
theorem okX6_mirror {P : qPs} {Hs : qHs} {T : qTs} {L : qLs} {S : qSs} {V : qVs} {ml : qml} {mt : qmt} {bf sv past : Nat → Nat} {isv : Bool} {pm : Nat} {mv ks tn : Nat → Nat} {mn : Nat} {mr : qmr} {a : qP} (hg : PG a) (hp : pm ≤ 8)  : Ok MX6_mirror [.ref 40] (HH P Hs T L S V (sF a, bf, sv, past, isv, pm) mr (mv, mn, ks, tn) ml mt) (some (.int (turnF dstM a).1)) (HH P Hs T L S V (sF (turnF dstM a).2.2, (cpB (sF a) bf 0 0 29), sv, paO past (cpB (sF a) bf 0 0 29) pm (turnF dstM a).1, isv, pmO pm (turnF dstM a).1) mr (mv, mn, ks, trR dstM tn (sF a) 25) ml mt) := by
  refine ok_of (by decide +kernel) (Nat.zero_le _) (Nat.le_of_ble_eq_true rfl) ?_
  intro X C E
  show Ex X MX6_mirror 0 [(0, .ref 40)] [] (HH P Hs T L S V (sF a, bf, sv, past, isv, pm) mr (mv, mn, ks, tn) ml mt)
  refine x_aload_n C dX6_mirror_0 rfl ?_
  refine x_callV0v C okX6_keep lkX6_80 miX6_keep msX6_keep maX6_keep ⟨Nat.le_of_ble_eq_true rfl, Nat.le_of_ble_eq_true rfl⟩ (Nat.le_of_ble_eq_true rfl) rfl rfl dX6_mirror_1 ?_
  refine x_aload_n C dX6_mirror_4 rfl ?_
  refine x_aload_n C dX6_mirror_5 rfl ?_
  refine x_iconst C (v := nI 1) dX6_mirror_6 (by decide +kernel) ?_
  refine x_callV1i C (okX6_doTurn_b hg.1) lkX6_168 miX6_doTurn msX6_doTurn maX6_doTurn ⟨Nat.le_of_ble_eq_true rfl, Nat.le_of_ble_eq_true rfl⟩ (Nat.le_of_ble_eq_true rfl) rfl rfl dX6_mirror_7 ?_
  refine x_callV1i C (okX6_endsF hp _) lkX6_86 miX6_ends msX6_ends maX6_ends ⟨Nat.le_of_ble_eq_true rfl, Nat.le_of_ble_eq_true rfl⟩ (Nat.le_of_ble_eq_true rfl) rfl rfl dX6_mirror_10 ?_
  rw [endS turnF_neg]
  exact x_iret E .int dX6_mirror_13 rfl rfl rfl rfl
set_option maxHeartbeats 4000000 in
set_option maxRecDepth 100000 in
theorem okX6_thriftF {P : qPs} {Hs : qHs} {T : qTs} {L : qLs} {S : qSs} {V : qVs} {ml : qml} {mt : qmt} {bf sv past : Nat → Nat} {isv : Bool} {pm : Nat} {r1 d1 it : Int32} {tn : Nat → Nat} {w : qW} {a c : qP} {Tk : Nat → Int32} (hg : PG a) (hp : pm ≤ 8) (hl : (thr a c Tk).1 < 2147483648) : ∃ w2 : qW, Ok MX6_thrift [.ref 40] (HH P Hs T L S V (sF a, bf, sv, past, isv, pm) (r1, d1, it, w.1) (w.2.1, w.2.2.1, w.2.2.2, tn) ml mt) (some (.int (thriftF a c Tk).1)) (HH P Hs T L S V (sF (thriftF a c Tk).2.2, (cpB (sF a) bf 0 0 29), sv, paO past (cpB (sF a) bf 0 0 29) pm (thriftF a c Tk).1, isv, pmO pm (thriftF a c Tk).1) (refR (r1, d1, it, w2.1) (thriftF a c Tk).2.1) (w2.2.1, w2.2.2.1, w2.2.2.2, tn) ml mt) := by
  obtain ⟨w2, hm⟩ := okX6_doThriftF (P := P) (Hs := Hs) (T := T) (L := L) (S := S) (V := V) (ml := ml) (mt := mt) (bf := (cpB (sF a) bf 0 0 29)) (sv := sv) (past := past) (isv := isv) (pm := pm) (r1 := r1) (d1 := d1) (it := it) (tn := tn) (w := w) (a := a) (c := c) (Tk := Tk) hg
  refine ⟨w2, ?_⟩
  refine ok_of (by decide +kernel) (Nat.zero_le _) (Nat.le_of_ble_eq_true rfl) ?_
  intro X C E
  show Ex X MX6_thrift 0 [(0, .ref 40)] [] (HH P Hs T L S V (sF a, bf, sv, past, isv, pm) (r1, d1, it, w.1) (w.2.1, w.2.2.1, w.2.2.2, tn) ml mt)
  refine x_aload_n C dX6_thrift_0 rfl ?_
  refine x_callV0v C okX6_keep lkX6_80 miX6_keep msX6_keep maX6_keep ⟨Nat.le_of_ble_eq_true rfl, Nat.le_of_ble_eq_true rfl⟩ (Nat.le_of_ble_eq_true rfl) rfl rfl dX6_thrift_1 ?_
  refine x_aload_n C dX6_thrift_4 rfl ?_
  refine x_aload_n C dX6_thrift_5 rfl ?_
  refine x_callV0i C hm lkX6_158 miX6_doThrift msX6_doThrift maX6_doThrift ⟨Nat.le_of_ble_eq_true rfl, Nat.le_of_ble_eq_true rfl⟩ (Nat.le_of_ble_eq_true rfl) rfl rfl dX6_thrift_6 ?_
  refine x_callV1i C (okX6_endsF hp _) lkX6_86 miX6_ends msX6_ends maX6_ends ⟨Nat.le_of_ble_eq_true rfl, Nat.le_of_ble_eq_true rfl⟩ (Nat.le_of_ble_eq_true rfl) rfl rfl dX6_thrift_9 ?_
  rw [endS (thriftF_neg hl)]
  exact x_iret E .int dX6_thrift_12 rfl rfl rfl rfl
