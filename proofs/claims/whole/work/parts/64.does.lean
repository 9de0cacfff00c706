/-! the reference: what an order does, read -/
def cmdN (a c : qP) (Tk : Nat → Int32) (w f s : Nat) : qOut :=
  if w < 8 then putF a (nI w) (nI f) else if w = 8 then liftF a (nI f) else if w = 9 then playF a (nI f) (nI s) else if w = 12 then thriftF a c Tk else if w = 11 then turnF dstM a else turnF dstT a
def CmV (w f s : Nat) : Prop := 1 ≤ w ∧ w ≤ 12 ∧ f < 25 ∧ s < 25
theorem cmdN_PG {a c : qP} {Tk : Nat → Int32} {w f s : Nat} (hg : PG a) (hc : Bd c.1) : PG (cmdN a c Tk w f s).2.2 := by
  unfold cmdN
  split
  · exact putF_PG hg
  · split
    · exact liftF_PG hg
    · split
      · exact playF_PG hg
      · split
        · exact thriftF_PG hg hc
        · split
          · exact turnF_PG hg (fun _ h => dstM_lt h) dstM_on dstM_inj
          · exact turnF_PG hg (fun _ h => dstT_lt h) dstT_on dstT_inj
theorem cmdN_why {a c : qP} {Tk : Nat → Int32} {w f s : Nat} (hg : PG a) (hv : CmV w f s) : ((cmdN a c Tk w f s).1 < 0 → ∃ q, (cmdN a c Tk w f s).2.1 = some q) ∧ (¬ (cmdN a c Tk w f s).1 < 0 → (cmdN a c Tk w f s).2.1 = none) := by
  obtain ⟨h1, h2, h3, h4⟩ := hv
  unfold cmdN
  split
  · exact putF_why h1 (by omega) h3
  · split
    · exact liftF_why hg.1.1 h3
    · split
      · exact playF_why hg.1.1 h3 h4
      · split
        · exact thriftF_why
        · split
          · exact turnF_why
          · exact turnF_why
set_option maxHeartbeats 4000000 in
set_option maxRecDepth 100000 in
theorem okX6_does {P : qPs} {Hs : qHs} {T : qTs} {L : qLs} {S : qSs} {V : qVs} {ml : qml} {bf sv past : Nat → Nat} {isv : Bool} {pm : Nat} {tx od : Nat → Nat} {n a0 o : Nat} {wr : Bool} {r1 d1 it : Int32} {tn : Nat → Nat} {w : qW} {a c : qP} {Tk : Nat → Int32} {k wt f s : Nat} (hg : PG a) (hk : k < 70) (h1 : od (3 * k) = wt) (h2 : od (3 * k + 1) = f) (h3 : od (3 * k + 2) = s) (hv : CmV wt f s) : ∃ (w2 : qW) (tn2 : Nat → Nat), Ok MX6_does [.ref 40, .int (nI k)] (HH P Hs T L S V (sF a, bf, sv, past, isv, pm) (r1, d1, it, w.1) (w.2.1, w.2.2.1, w.2.2.2, tn) ml (tx, n, a0, wr, od, o)) (some (.int (cmdN a c Tk wt f s).1)) (HH P Hs T L S V (sF (cmdN a c Tk wt f s).2.2, bf, sv, past, isv, pm) (refR (r1, d1, it, w2.1) (cmdN a c Tk wt f s).2.1) (w2.2.1, w2.2.2.1, w2.2.2.2, tn2) ml (tx, n, a0, wr, od, o)) := by
  obtain ⟨v1, v2, v3, v4⟩ := hv
  have hw : wt < 8 ∨ wt = 8 ∨ wt = 9 ∨ wt = 10 ∨ wt = 11 ∨ wt = 12 := by omega
  rcases hw with hw | hw | hw | hw | hw | hw
  · have e1 : cmdN a c Tk wt f s = putF a (nI wt) (nI f) := by unfold cmdN; rw [if_pos hw]
    rw [e1]
    refine ⟨w, tn, ?_⟩
    refine ok_of (by decide +kernel) (Nat.zero_le _) (Nat.le_of_ble_eq_true rfl) ?_
    intro X C E
    show Ex X MX6_does 0 [(0, .ref 40), (1, .int (nI k))] [] (HH P Hs T L S V (sF a, bf, sv, past, isv, pm) (r1, d1, it, w.1) (w.2.1, w.2.2.1, w.2.2.2, tn) ml (tx, n, a0, wr, od, o))
    refine x_aload_n C dX6_does_0 rfl ?_
    refine x_getfield C qk6 20 (by decide) lfX6_42 dX6_does_1 rfl rfl ?_
    refine x_iconst C (v := nI 3) dX6_does_4 (by decide +kernel) ?_
    refine x_iload_n C dX6_does_5 rfl ?_
    refine x_imulN C dX6_does_6 ?_
    refine x_iald C dX6_does_7 HM_od (by omega) (by decide) ?_
    refine x_top (congrArg nI h1) ?_
    refine x_istore_n C dX6_does_8 (by decide) [(2, _), (0, _), (1, _)] rfl ?_
    refine x_aload_n C dX6_does_9 rfl ?_
    refine x_getfield C qk6 20 (by decide) lfX6_42 dX6_does_10 rfl rfl ?_
    refine x_iconst C (v := nI 3) dX6_does_13 (by decide +kernel) ?_
    refine x_iload_n C dX6_does_14 rfl ?_
    refine x_imulN C dX6_does_15 ?_
    refine x_iconst C (v := nI 1) dX6_does_16 (by decide +kernel) ?_
    refine x_iaddN C dX6_does_17 ?_
    refine x_iald C dX6_does_18 HM_od (by omega) (by decide) ?_
    refine x_top (congrArg nI h2) ?_
    refine x_istore_n C dX6_does_19 (by decide) [(3, _), (2, _), (0, _), (1, _)] rfl ?_
    refine x_iload_n C dX6_does_20 rfl ?_
    refine x_bipush C (v := nI 8) dX6_does_21 (by decide +kernel) ?_
    refine x_icmp_geN C 33 dX6_does_23 (by decide) (by omega) (by omega) (fun c23 => ?_) (fun c23 => ?_)
    · exact absurd c23 (by omega)
    · refine x_aload_n C dX6_does_26 rfl ?_
      refine x_iload_n C dX6_does_27 rfl ?_
      refine x_iload_n C dX6_does_28 rfl ?_
      refine x_callV2i C (okX6_doPutF hg _ _) lkX6_83 miX6_doPut msX6_doPut maX6_doPut ⟨Nat.le_of_ble_eq_true rfl, Nat.le_of_ble_eq_true rfl⟩ (Nat.le_of_ble_eq_true rfl) rfl rfl dX6_does_29 ?_
      exact x_iret E .int dX6_does_32 rfl rfl rfl rfl
  · subst hw
    have e1 : cmdN a c Tk 8 f s = liftF a (nI f) := by unfold cmdN; rw [if_neg (by decide), if_pos rfl]
    rw [e1]
    refine ⟨w, tn, ?_⟩
    refine ok_of (by decide +kernel) (Nat.zero_le _) (Nat.le_of_ble_eq_true rfl) ?_
    intro X C E
    show Ex X MX6_does 0 [(0, .ref 40), (1, .int (nI k))] [] (HH P Hs T L S V (sF a, bf, sv, past, isv, pm) (r1, d1, it, w.1) (w.2.1, w.2.2.1, w.2.2.2, tn) ml (tx, n, a0, wr, od, o))
    refine x_aload_n C dX6_does_0 rfl ?_
    refine x_getfield C qk6 20 (by decide) lfX6_42 dX6_does_1 rfl rfl ?_
    refine x_iconst C (v := nI 3) dX6_does_4 (by decide +kernel) ?_
    refine x_iload_n C dX6_does_5 rfl ?_
    refine x_imulN C dX6_does_6 ?_
    refine x_iald C dX6_does_7 HM_od (by omega) (by decide) ?_
    refine x_top (congrArg nI h1) ?_
    refine x_istore_n C dX6_does_8 (by decide) [(2, _), (0, _), (1, _)] rfl ?_
    refine x_aload_n C dX6_does_9 rfl ?_
    refine x_getfield C qk6 20 (by decide) lfX6_42 dX6_does_10 rfl rfl ?_
    refine x_iconst C (v := nI 3) dX6_does_13 (by decide +kernel) ?_
    refine x_iload_n C dX6_does_14 rfl ?_
    refine x_imulN C dX6_does_15 ?_
    refine x_iconst C (v := nI 1) dX6_does_16 (by decide +kernel) ?_
    refine x_iaddN C dX6_does_17 ?_
    refine x_iald C dX6_does_18 HM_od (by omega) (by decide) ?_
    refine x_top (congrArg nI h2) ?_
    refine x_istore_n C dX6_does_19 (by decide) [(3, _), (2, _), (0, _), (1, _)] rfl ?_
    refine x_iload_n C dX6_does_20 rfl ?_
    refine x_bipush C (v := nI 8) dX6_does_21 (by decide +kernel) ?_
    refine x_icmp_geN C 33 dX6_does_23 (by decide) (by omega) (by omega) (fun c23 => ?_) (fun c23 => ?_)
    · refine x_iload_n C dX6_does_33 rfl ?_
      refine x_tsw C (off := 34) 68 dX6_does_34 (by decide +kernel) (by decide +kernel) (by decide +kernel) (by decide) ?_
      refine x_aload_n C dX6_does_68 rfl ?_
      refine x_iload_n C dX6_does_69 rfl ?_
      refine x_callV1i C (okX6_doLiftF hg _) lkX6_89 miX6_doLift msX6_doLift maX6_doLift ⟨Nat.le_of_ble_eq_true rfl, Nat.le_of_ble_eq_true rfl⟩ (Nat.le_of_ble_eq_true rfl) rfl rfl dX6_does_70 ?_
      exact x_iret E .int dX6_does_73 rfl rfl rfl rfl
    · exact absurd c23 (by decide)
  · subst hw
    have e1 : cmdN a c Tk 9 f s = playF a (nI f) (nI s) := by unfold cmdN; rw [if_neg (by decide), if_neg (by decide), if_pos rfl]
    rw [e1]
    refine ⟨w, tn, ?_⟩
    refine ok_of (by decide +kernel) (Nat.zero_le _) (Nat.le_of_ble_eq_true rfl) ?_
    intro X C E
    show Ex X MX6_does 0 [(0, .ref 40), (1, .int (nI k))] [] (HH P Hs T L S V (sF a, bf, sv, past, isv, pm) (r1, d1, it, w.1) (w.2.1, w.2.2.1, w.2.2.2, tn) ml (tx, n, a0, wr, od, o))
    refine x_aload_n C dX6_does_0 rfl ?_
    refine x_getfield C qk6 20 (by decide) lfX6_42 dX6_does_1 rfl rfl ?_
    refine x_iconst C (v := nI 3) dX6_does_4 (by decide +kernel) ?_
    refine x_iload_n C dX6_does_5 rfl ?_
    refine x_imulN C dX6_does_6 ?_
    refine x_iald C dX6_does_7 HM_od (by omega) (by decide) ?_
    refine x_top (congrArg nI h1) ?_
    refine x_istore_n C dX6_does_8 (by decide) [(2, _), (0, _), (1, _)] rfl ?_
    refine x_aload_n C dX6_does_9 rfl ?_
    refine x_getfield C qk6 20 (by decide) lfX6_42 dX6_does_10 rfl rfl ?_
    refine x_iconst C (v := nI 3) dX6_does_13 (by decide +kernel) ?_
    refine x_iload_n C dX6_does_14 rfl ?_
    refine x_imulN C dX6_does_15 ?_
    refine x_iconst C (v := nI 1) dX6_does_16 (by decide +kernel) ?_
    refine x_iaddN C dX6_does_17 ?_
    refine x_iald C dX6_does_18 HM_od (by omega) (by decide) ?_
    refine x_top (congrArg nI h2) ?_
    refine x_istore_n C dX6_does_19 (by decide) [(3, _), (2, _), (0, _), (1, _)] rfl ?_
    refine x_iload_n C dX6_does_20 rfl ?_
    refine x_bipush C (v := nI 8) dX6_does_21 (by decide +kernel) ?_
    refine x_icmp_geN C 33 dX6_does_23 (by decide) (by omega) (by omega) (fun c23 => ?_) (fun c23 => ?_)
    · refine x_iload_n C dX6_does_33 rfl ?_
      refine x_tsw C (off := 40) 74 dX6_does_34 (by decide +kernel) (by decide +kernel) (by decide +kernel) (by decide) ?_
      refine x_aload_n C dX6_does_74 rfl ?_
      refine x_iload_n C dX6_does_75 rfl ?_
      refine x_aload_n C dX6_does_76 rfl ?_
      refine x_getfield C qk6 20 (by decide) lfX6_42 dX6_does_77 rfl rfl ?_
      refine x_iconst C (v := nI 3) dX6_does_80 (by decide +kernel) ?_
      refine x_iload_n C dX6_does_81 rfl ?_
      refine x_imulN C dX6_does_82 ?_
      refine x_iconst C (v := nI 2) dX6_does_83 (by decide +kernel) ?_
      refine x_iaddN C dX6_does_84 ?_
      refine x_iald C dX6_does_85 HM_od (by omega) (by decide) ?_
      refine x_top (congrArg nI h3) ?_
      refine x_callV2i C (okX6_doPlayF hg _ _) lkX6_165 miX6_doPlay msX6_doPlay maX6_doPlay ⟨Nat.le_of_ble_eq_true rfl, Nat.le_of_ble_eq_true rfl⟩ (Nat.le_of_ble_eq_true rfl) rfl rfl dX6_does_86 ?_
      exact x_iret E .int dX6_does_89 rfl rfl rfl rfl
    · exact absurd c23 (by decide)
  · subst hw
    have e1 : cmdN a c Tk 10 f s = turnF dstT a := by unfold cmdN; rw [if_neg (by decide), if_neg (by decide), if_neg (by decide), if_neg (by decide), if_neg (by decide)]
    rw [e1]
    refine ⟨w, trR dstT tn (sF a) 25, ?_⟩
    refine ok_of (by decide +kernel) (Nat.zero_le _) (Nat.le_of_ble_eq_true rfl) ?_
    intro X C E
    show Ex X MX6_does 0 [(0, .ref 40), (1, .int (nI k))] [] (HH P Hs T L S V (sF a, bf, sv, past, isv, pm) (r1, d1, it, w.1) (w.2.1, w.2.2.1, w.2.2.2, tn) ml (tx, n, a0, wr, od, o))
    refine x_aload_n C dX6_does_0 rfl ?_
    refine x_getfield C qk6 20 (by decide) lfX6_42 dX6_does_1 rfl rfl ?_
    refine x_iconst C (v := nI 3) dX6_does_4 (by decide +kernel) ?_
    refine x_iload_n C dX6_does_5 rfl ?_
    refine x_imulN C dX6_does_6 ?_
    refine x_iald C dX6_does_7 HM_od (by omega) (by decide) ?_
    refine x_top (congrArg nI h1) ?_
    refine x_istore_n C dX6_does_8 (by decide) [(2, _), (0, _), (1, _)] rfl ?_
    refine x_aload_n C dX6_does_9 rfl ?_
    refine x_getfield C qk6 20 (by decide) lfX6_42 dX6_does_10 rfl rfl ?_
    refine x_iconst C (v := nI 3) dX6_does_13 (by decide +kernel) ?_
    refine x_iload_n C dX6_does_14 rfl ?_
    refine x_imulN C dX6_does_15 ?_
    refine x_iconst C (v := nI 1) dX6_does_16 (by decide +kernel) ?_
    refine x_iaddN C dX6_does_17 ?_
    refine x_iald C dX6_does_18 HM_od (by omega) (by decide) ?_
    refine x_top (congrArg nI h2) ?_
    refine x_istore_n C dX6_does_19 (by decide) [(3, _), (2, _), (0, _), (1, _)] rfl ?_
    refine x_iload_n C dX6_does_20 rfl ?_
    refine x_bipush C (v := nI 8) dX6_does_21 (by decide +kernel) ?_
    refine x_icmp_geN C 33 dX6_does_23 (by decide) (by omega) (by omega) (fun c23 => ?_) (fun c23 => ?_)
    · refine x_iload_n C dX6_does_33 rfl ?_
      refine x_tsw C (off := 61) 95 dX6_does_34 (by decide +kernel) (by decide +kernel) (by decide +kernel) (by decide) ?_
      refine x_aload_n C dX6_does_95 rfl ?_
      refine x_iload_n C dX6_does_96 rfl ?_
      refine x_bipush C (v := nI 11) dX6_does_97 (by decide +kernel) ?_
      refine x_icmp_neN C 106 dX6_does_99 (by decide) (by omega) (by omega) (fun c99 => ?_) (fun c99 => ?_)
      · refine x_iconst C (v := nI 0) dX6_does_106 (by decide +kernel) ?_
        refine x_callV1i C (okX6_doTurn_a hg.1) lkX6_168 miX6_doTurn msX6_doTurn maX6_doTurn ⟨Nat.le_of_ble_eq_true rfl, Nat.le_of_ble_eq_true rfl⟩ (Nat.le_of_ble_eq_true rfl) rfl rfl dX6_does_107 ?_
        exact x_iret E .int dX6_does_110 rfl rfl rfl rfl
      · exact absurd c99 (by decide)
    · exact absurd c23 (by decide)
  · subst hw
    have e1 : cmdN a c Tk 11 f s = turnF dstM a := by unfold cmdN; rw [if_neg (by decide), if_neg (by decide), if_neg (by decide), if_neg (by decide), if_pos rfl]
    rw [e1]
    refine ⟨w, trR dstM tn (sF a) 25, ?_⟩
    refine ok_of (by decide +kernel) (Nat.zero_le _) (Nat.le_of_ble_eq_true rfl) ?_
    intro X C E
    show Ex X MX6_does 0 [(0, .ref 40), (1, .int (nI k))] [] (HH P Hs T L S V (sF a, bf, sv, past, isv, pm) (r1, d1, it, w.1) (w.2.1, w.2.2.1, w.2.2.2, tn) ml (tx, n, a0, wr, od, o))
    refine x_aload_n C dX6_does_0 rfl ?_
    refine x_getfield C qk6 20 (by decide) lfX6_42 dX6_does_1 rfl rfl ?_
    refine x_iconst C (v := nI 3) dX6_does_4 (by decide +kernel) ?_
    refine x_iload_n C dX6_does_5 rfl ?_
    refine x_imulN C dX6_does_6 ?_
    refine x_iald C dX6_does_7 HM_od (by omega) (by decide) ?_
    refine x_top (congrArg nI h1) ?_
    refine x_istore_n C dX6_does_8 (by decide) [(2, _), (0, _), (1, _)] rfl ?_
    refine x_aload_n C dX6_does_9 rfl ?_
    refine x_getfield C qk6 20 (by decide) lfX6_42 dX6_does_10 rfl rfl ?_
    refine x_iconst C (v := nI 3) dX6_does_13 (by decide +kernel) ?_
    refine x_iload_n C dX6_does_14 rfl ?_
    refine x_imulN C dX6_does_15 ?_
    refine x_iconst C (v := nI 1) dX6_does_16 (by decide +kernel) ?_
    refine x_iaddN C dX6_does_17 ?_
    refine x_iald C dX6_does_18 HM_od (by omega) (by decide) ?_
    refine x_top (congrArg nI h2) ?_
    refine x_istore_n C dX6_does_19 (by decide) [(3, _), (2, _), (0, _), (1, _)] rfl ?_
    refine x_iload_n C dX6_does_20 rfl ?_
    refine x_bipush C (v := nI 8) dX6_does_21 (by decide +kernel) ?_
    refine x_icmp_geN C 33 dX6_does_23 (by decide) (by omega) (by omega) (fun c23 => ?_) (fun c23 => ?_)
    · refine x_iload_n C dX6_does_33 rfl ?_
      refine x_tsw C (off := 61) 95 dX6_does_34 (by decide +kernel) (by decide +kernel) (by decide +kernel) (by decide) ?_
      refine x_aload_n C dX6_does_95 rfl ?_
      refine x_iload_n C dX6_does_96 rfl ?_
      refine x_bipush C (v := nI 11) dX6_does_97 (by decide +kernel) ?_
      refine x_icmp_neN C 106 dX6_does_99 (by decide) (by omega) (by omega) (fun c99 => ?_) (fun c99 => ?_)
      · exact absurd rfl c99
      · refine x_iconst C (v := nI 1) dX6_does_102 (by decide +kernel) ?_
        refine x_goto C 107 dX6_does_103 (by decide) ?_
        refine x_callV1i C (okX6_doTurn_b hg.1) lkX6_168 miX6_doTurn msX6_doTurn maX6_doTurn ⟨Nat.le_of_ble_eq_true rfl, Nat.le_of_ble_eq_true rfl⟩ (Nat.le_of_ble_eq_true rfl) rfl rfl dX6_does_107 ?_
        exact x_iret E .int dX6_does_110 rfl rfl rfl rfl
    · exact absurd c23 (by decide)
  · subst hw
    obtain ⟨w2, hm⟩ := okX6_doThriftF (P := P) (Hs := Hs) (T := T) (L := L) (S := S) (V := V) (ml := ml) (mt := (tx, n, a0, wr, od, o)) (bf := bf) (sv := sv) (past := past) (isv := isv) (pm := pm) (r1 := r1) (d1 := d1) (it := it) (tn := tn) (w := w) (a := a) (c := c) (Tk := Tk) hg
    have e1 : cmdN a c Tk 12 f s = thriftF a c Tk := by unfold cmdN; rw [if_neg (by decide), if_neg (by decide), if_neg (by decide), if_pos rfl]
    rw [e1]
    refine ⟨w2, tn, ?_⟩
    refine ok_of (by decide +kernel) (Nat.zero_le _) (Nat.le_of_ble_eq_true rfl) ?_
    intro X C E
    show Ex X MX6_does 0 [(0, .ref 40), (1, .int (nI k))] [] (HH P Hs T L S V (sF a, bf, sv, past, isv, pm) (r1, d1, it, w.1) (w.2.1, w.2.2.1, w.2.2.2, tn) ml (tx, n, a0, wr, od, o))
    refine x_aload_n C dX6_does_0 rfl ?_
    refine x_getfield C qk6 20 (by decide) lfX6_42 dX6_does_1 rfl rfl ?_
    refine x_iconst C (v := nI 3) dX6_does_4 (by decide +kernel) ?_
    refine x_iload_n C dX6_does_5 rfl ?_
    refine x_imulN C dX6_does_6 ?_
    refine x_iald C dX6_does_7 HM_od (by omega) (by decide) ?_
    refine x_top (congrArg nI h1) ?_
    refine x_istore_n C dX6_does_8 (by decide) [(2, _), (0, _), (1, _)] rfl ?_
    refine x_aload_n C dX6_does_9 rfl ?_
    refine x_getfield C qk6 20 (by decide) lfX6_42 dX6_does_10 rfl rfl ?_
    refine x_iconst C (v := nI 3) dX6_does_13 (by decide +kernel) ?_
    refine x_iload_n C dX6_does_14 rfl ?_
    refine x_imulN C dX6_does_15 ?_
    refine x_iconst C (v := nI 1) dX6_does_16 (by decide +kernel) ?_
    refine x_iaddN C dX6_does_17 ?_
    refine x_iald C dX6_does_18 HM_od (by omega) (by decide) ?_
    refine x_top (congrArg nI h2) ?_
    refine x_istore_n C dX6_does_19 (by decide) [(3, _), (2, _), (0, _), (1, _)] rfl ?_
    refine x_iload_n C dX6_does_20 rfl ?_
    refine x_bipush C (v := nI 8) dX6_does_21 (by decide +kernel) ?_
    refine x_icmp_geN C 33 dX6_does_23 (by decide) (by omega) (by omega) (fun c23 => ?_) (fun c23 => ?_)
    · refine x_iload_n C dX6_does_33 rfl ?_
      refine x_tsw C (off := 56) 90 dX6_does_34 (by decide +kernel) (by decide +kernel) (by decide +kernel) (by decide) ?_
      refine x_aload_n C dX6_does_90 rfl ?_
      refine x_callV0i C hm lkX6_158 miX6_doThrift msX6_doThrift maX6_doThrift ⟨Nat.le_of_ble_eq_true rfl, Nat.le_of_ble_eq_true rfl⟩ (Nat.le_of_ble_eq_true rfl) rfl rfl dX6_does_91 ?_
      exact x_iret E .int dX6_does_94 rfl rfl rfl rfl
    · exact absurd c23 (by decide)

