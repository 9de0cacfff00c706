/-! the class's calls that change the position -/
theorem isSq_cases (x : Int32) : isSq x = false ∨ ∃ i : Nat, i < 25 ∧ x = nI i := by
  cases h : isSq x with
  | false => exact Or.inl rfl
  | true => exact Or.inr (isSq_of h)
theorem isSq_in {i : Nat} (h : i < 25) : ¬ isSq (nI i) = false := by rw [isSq_nI (by omega), decide_eq_true h]; decide
def sqF (x : Int32) (f : Nat → Int32) : Int32 := if isSq x = false then -1 else f x.toNatClampNeg
theorem sqF_out {x : Int32} {f : Nat → Int32} (h : isSq x = false) : sqF x f = -1 := by unfold sqF; rw [if_pos h]
theorem sqF_in {i : Nat} {f : Nat → Int32} (h : i < 25) : sqF (nI i) f = f i := by unfold sqF; rw [if_neg (isSq_in h), nI_clamp (by omega)]
theorem okX5_putNow {a b c d : qP} {Hs : qHs} {T : qTs} {L : qLs} {S : qSs} {V : qVs} {ms : qms} {mr : qmr} {mm : qmm} {ml : qml} {mt : qmt} (ha : ∀ i, a.1 i < 8) (x y : Int32) : Ok MX5_putNow [.ref 0, .int x, .int y] (HH (a, b, c, d) Hs T L S V ms mr mm ml mt) (some (.int (putF a x y).1)) (HH ((putF a x y).2.2, b, c, d) Hs T L S (refP V (putF a x y)) ms mr mm ml mt) := by
  obtain ⟨sv, cm, r1, d1, f1⟩ := V
  unfold putF
  rcases isSq_cases y with hy | ⟨i, hi, rfl⟩
  · rw [if_pos hy]
    exact okX5_putNow_a x y hy
  · rw [if_neg (isSq_in hi)]
    by_cases hx : x < nI 1 ∨ nI 7 < x
    · rw [if_pos hx]
      exact okX5_putNow_b hx hi
    · rw [if_neg hx]
      have h0 : ¬ x < 0 := fun q => hx (Or.inl (Int32.lt_trans q (by decide)))
      obtain ⟨v, hv, rfl⟩ := nI_of h0
      have hv1 : 1 ≤ v := by
        rcases Nat.lt_or_ge v 1 with q | q
        · exact absurd (Or.inl ((nI_ltI hv (by decide)).mpr q)) hx
        · exact q
      have hv7 : v ≤ 7 := by
        rcases Nat.lt_or_ge 7 v with q | q
        · exact absurd (Or.inr ((nI_ltI (by decide) hv).mpr q)) hx
        · exact q
      rw [nI_clamp hv, nI_clamp (by omega)]
      exact okX5_putNow_c ha hv1 hv7 hi
theorem okX5_liftNow {a b c d : qP} {Hs : qHs} {T : qTs} {L : qLs} {S : qSs} {V : qVs} {ms : qms} {mr : qmr} {mm : qmm} {ml : qml} {mt : qmt} (ha : ∀ i, a.1 i < 8) (y : Int32) : Ok MX5_liftNow [.ref 0, .int y] (HH (a, b, c, d) Hs T L S V ms mr mm ml mt) (some (.int (liftF a y).1)) (HH ((liftF a y).2.2, b, c, d) Hs T L S (refP V (liftF a y)) ms mr mm ml mt) := by
  obtain ⟨sv, cm, r1, d1, f1⟩ := V
  unfold liftF
  rcases isSq_cases y with hy | ⟨i, hi, rfl⟩
  · rw [if_pos hy]
    exact okX5_liftNow_a y hy
  · rw [if_neg (isSq_in hi), nI_clamp (by omega)]
    exact okX5_liftNow_c ha hi
theorem okX5_playNow {a b c d : qP} {Hs : qHs} {T : qTs} {L : qLs} {S : qSs} {V : qVs} {ms : qms} {mr : qmr} {mm : qmm} {ml : qml} {mt : qmt} (ha : ∀ i, a.1 i < 8) (x y : Int32) : Ok MX5_playNow [.ref 0, .int x, .int y] (HH (a, b, c, d) Hs T L S V ms mr mm ml mt) (some (.int (playF a x y).1)) (HH ((playF a x y).2.2, b, c, d) Hs T L S (refP V (playF a x y)) ms mr mm ml mt) := by
  obtain ⟨sv, cm, r1, d1, f1⟩ := V
  unfold playF
  rcases isSq_cases x with hx | ⟨i, hi, rfl⟩
  · rw [if_pos (Or.inl hx)]
    exact okX5_playNow_a x y (Or.inl hx)
  · rcases isSq_cases y with hy | ⟨j, hj, rfl⟩
    · rw [if_pos (Or.inr hy)]
      exact okX5_playNow_a _ y (Or.inr hy)
    · rw [if_neg (fun q => q.elim (isSq_in hi) (isSq_in hj)), nI_clamp (by omega), nI_clamp (by omega)]
      exact okX5_playNow_c ha hi hj
def kpF (Hs : qHs) (b : qP) (x : Int32) : qHs := if x < 0 then Hs else (qUR Hs.1 Hs.2.1 b, nxt Hs.2.1, szt Hs.2.2)
theorem okX5_keepF {a b c d : qP} {Hs : qHs} {T : qTs} {L : qLs} {S : qSs} {V : qVs} {ms : qms} {mr : qmr} {mm : qmm} {ml : qml} {mt : qmt} (hn : Hs.2.1 < 8) (hsz : Hs.2.2 ≤ 8) (hR : ∀ j, j < 8 → Bd (Hs.1 j).1) (hb : Bd b.1) (x : Int32) : Ok MX5_keep [.ref 0, .int x] (HH (a, b, c, d) Hs T L S V ms mr mm ml mt) (some (.int x)) (HH (a, b, c, d) (kpF Hs b x) T L S V ms mr mm ml mt) := by
  unfold kpF
  by_cases hx : x < 0
  · rw [if_pos hx]
    exact okX5_keep_n hx
  · rw [if_neg hx]
    obtain ⟨n, hn2, rfl⟩ := nI_of hx
    exact okX5_keep hn hsz hR hb hn2
/-- the positions, the ring, are as they should be -/
def KP (P : qPs) (Hs : qHs) : Prop := Bd P.1.1 ∧ Bd P.2.1.1 ∧ Bd P.2.2.1.1 ∧ Bd P.2.2.2.1 ∧ (∀ j, j < 8 → Bd (Hs.1 j).1) ∧ Hs.2.1 < 8 ∧ Hs.2.2 ≤ 8
theorem kpF_ok {P P2 : qPs} {Hs : qHs} (h : KP P Hs) {b : qP} (hb : Bd b.1) (x : Int32) (h2 : Bd P2.1.1 ∧ Bd P2.2.1.1 ∧ Bd P2.2.2.1.1 ∧ Bd P2.2.2.2.1) : KP P2 (kpF Hs b x) := by
  obtain ⟨-, -, -, -, h5, h6, h7⟩ := h
  unfold kpF
  split
  · exact ⟨h2.1, h2.2.1, h2.2.2.1, h2.2.2.2, h5, h6, h7⟩
  · refine ⟨h2.1, h2.2.1, h2.2.2.1, h2.2.2.2, fun j hj => ?_, ?_, ?_⟩
    · show Bd (if j = Hs.2.1 then b else Hs.1 j).1
      split
      · exact hb
      · exact h5 j hj
    · show nxt Hs.2.1 < 8
      unfold nxt
      split <;> omega
    · show szt Hs.2.2 ≤ 8
      unfold szt
      split <;> omega
theorem putC_Bd {a : qP} {v i : Nat} (ha : Bd a.1) (hv : v < 8) (hi : i < 25) : Bd (putC a v i).2.2.1 := by
  unfold putC
  (repeat' split) <;> first | exact ha | exact ha.up hi hv
theorem putF_Bd {a : qP} {x y : Int32} (ha : Bd a.1) : Bd (putF a x y).2.2.1 := by
  unfold putF
  rcases isSq_cases y with hy | ⟨i, hi, rfl⟩
  · rw [if_pos hy]; exact ha
  · rw [if_neg (isSq_in hi)]
    by_cases hx : x < nI 1 ∨ nI 7 < x
    · rw [if_pos hx]; exact ha
    · rw [if_neg hx, nI_clamp (by omega)]
      have h0 : ¬ x < 0 := fun q => hx (Or.inl (Int32.lt_trans q (by decide)))
      obtain ⟨v, hv, rfl⟩ := nI_of h0
      rw [nI_clamp hv]
      refine putC_Bd ha ?_ hi
      rcases Nat.lt_or_ge 7 v with q | q
      · exact absurd (Or.inr ((nI_ltI (by decide) hv).mpr q)) hx
      · omega
theorem liftF_Bd {a : qP} {y : Int32} (ha : Bd a.1) : Bd (liftF a y).2.2.1 := by
  unfold liftF
  rcases isSq_cases y with hy | ⟨i, hi, rfl⟩
  · rw [if_pos hy]; exact ha
  · rw [if_neg (isSq_in hi), nI_clamp (by omega)]
    unfold liftC
    split
    · exact ha
    · exact ha.up hi (by decide)
theorem aft_Bd {b : Nat → Nat} (hb : Bd b) {i j : Nat} (hi : i < 25) (hj : j < 25) : Bd (aft b i j) := (hb.up hi (by decide)).up hj (hb.1 i)
theorem playF_Bd {a : qP} {x y : Int32} (ha : Bd a.1) : Bd (playF a x y).2.2.1 := by
  unfold playF
  rcases isSq_cases x with hx | ⟨i, hi, rfl⟩
  · rw [if_pos (Or.inl hx)]; exact ha
  · rcases isSq_cases y with hy | ⟨j, hj, rfl⟩
    · rw [if_pos (Or.inr hy)]; exact ha
    · rw [if_neg (fun q => q.elim (isSq_in hi) (isSq_in hj)), nI_clamp (by omega), nI_clamp (by omega)]
      unfold playC
      (repeat' split) <;> first | exact ha | exact aft_Bd ha hi hj
theorem thR_Bd {S : Nat → Nat → Bool} {Tk : Nat → Int32} : ∀ (m off : Nat) (a c : qP), Bd a.1 → Bd c.1 → Bd (thR S Tk m off a c).2.1.1 ∧ Bd (thR S Tk m off a c).2.2.1
  | 0, off, a, c, ha, hc => ⟨ha, hc⟩
  | m + 1, off, a, c, ha, hc => by
    simp only [thR]
    obtain ⟨h1, h2⟩ := scanF_ok (S := S) (Tk := Tk) ha 25 (Nat.le_refl _) c hc
    cases e : (scanF a S Tk 25 c).1 with
    | none => exact ⟨ha, h1⟩
    | some i => exact thR_Bd m (off + 1) _ _ (ha.up (h2 i e) (by decide)) h1
theorem thriftF_Bd {a c : qP} {Tk : Nat → Int32} (ha : Bd a.1) (hc : Bd c.1) : Bd (thriftF a c Tk).2.2.1 ∧ Bd (thriftC a c Tk).1 := by
  obtain ⟨h1, h2⟩ := thR_Bd (S := keyP a.1) (Tk := tkF a.1 Tk) 12 0 a c ha hc
  unfold thriftF thriftC
  by_cases hf : fitsB a.1 = false
  · rw [if_pos hf, if_pos hf]; exact ⟨ha, hc⟩
  · rw [if_neg hf, if_neg hf]
    split
    · exact ⟨h1, h2⟩
    · exact ⟨h1, h2⟩
set_option maxHeartbeats 4000000 in
set_option maxRecDepth 100000 in
theorem okX5_put {a b c d : qP} {Hs : qHs} {T : qTs} {L : qLs} {S : qSs} {V : qVs} {ms : qms} {mr : qmr} {mm : qmm} {ml : qml} {mt : qmt} (x y : Int32) (hk : KP (a, b, c, d) Hs) : Ok MX5_put [.ref 0, .int x, .int y] (HH (a, b, c, d) Hs T L S V ms mr mm ml mt) (some (.int (putF a x y).1)) (HH ((putF a x y).2.2, a, c, d) (kpF Hs a (putF a x y).1) T L S (refP V (putF a x y)) ms mr mm ml mt) := by
  refine ok_of (by decide +kernel) (Nat.zero_le _) (Nat.le_of_ble_eq_true rfl) ?_
  intro X C E
  show Ex X MX5_put 0 [(0, .ref 0), (1, .int x), (2, .int y)] [] (HH (a, b, c, d) Hs T L S V ms mr mm ml mt)
  refine x_aload_n C dX5_put_0 rfl ?_
  refine x_getfield C qk5 1 (by decide) lfX5_16 dX5_put_1 rfl rfl ?_
  refine x_aload_n C dX5_put_4 rfl ?_
  refine x_getfield C qk5 0 (by decide) lfX5_12 dX5_put_5 rfl rfl ?_
  refine x_callV1v C (okX3_copyFrom PosF_before PosF_now hk.2.1 hk.1 (by decide) (by decide) (by decide)) lkX5_67 miX3_copyFrom msX3_copyFrom maX3_copyFrom ⟨Nat.le_of_ble_eq_true rfl, Nat.le_of_ble_eq_true rfl⟩ (Nat.le_of_ble_eq_true rfl) rfl rfl dX5_put_8 ?_
  refine x_heap (h2 := HH (a, a, c, d) Hs T L S V ms mr mm ml mt) (by rfl) ?_
  refine x_aload_n C dX5_put_11 rfl ?_
  refine x_aload_n C dX5_put_12 rfl ?_
  refine x_iload_n C dX5_put_13 rfl ?_
  refine x_iload_n C dX5_put_14 rfl ?_
  refine x_callV2i C (okX5_putNow hk.1.1 x y) lkX5_71 miX5_putNow msX5_putNow maX5_putNow ⟨Nat.le_of_ble_eq_true rfl, Nat.le_of_ble_eq_true rfl⟩ (Nat.le_of_ble_eq_true rfl) rfl rfl dX5_put_15 ?_
  refine x_callV1i C (okX5_keepF hk.2.2.2.2.2.1 hk.2.2.2.2.2.2 hk.2.2.2.2.1 hk.1 _) lkX5_75 miX5_keep msX5_keep maX5_keep ⟨Nat.le_of_ble_eq_true rfl, Nat.le_of_ble_eq_true rfl⟩ (Nat.le_of_ble_eq_true rfl) rfl rfl dX5_put_18 ?_
  exact x_iret E .int dX5_put_21 rfl rfl rfl rfl
set_option maxHeartbeats 4000000 in
set_option maxRecDepth 100000 in
theorem okX5_lift {a b c d : qP} {Hs : qHs} {T : qTs} {L : qLs} {S : qSs} {V : qVs} {ms : qms} {mr : qmr} {mm : qmm} {ml : qml} {mt : qmt} (y : Int32) (hk : KP (a, b, c, d) Hs) : Ok MX5_lift [.ref 0, .int y] (HH (a, b, c, d) Hs T L S V ms mr mm ml mt) (some (.int (liftF a y).1)) (HH ((liftF a y).2.2, a, c, d) (kpF Hs a (liftF a y).1) T L S (refP V (liftF a y)) ms mr mm ml mt) := by
  refine ok_of (by decide +kernel) (Nat.zero_le _) (Nat.le_of_ble_eq_true rfl) ?_
  intro X C E
  show Ex X MX5_lift 0 [(0, .ref 0), (1, .int y)] [] (HH (a, b, c, d) Hs T L S V ms mr mm ml mt)
  refine x_aload_n C dX5_lift_0 rfl ?_
  refine x_getfield C qk5 1 (by decide) lfX5_16 dX5_lift_1 rfl rfl ?_
  refine x_aload_n C dX5_lift_4 rfl ?_
  refine x_getfield C qk5 0 (by decide) lfX5_12 dX5_lift_5 rfl rfl ?_
  refine x_callV1v C (okX3_copyFrom PosF_before PosF_now hk.2.1 hk.1 (by decide) (by decide) (by decide)) lkX5_67 miX3_copyFrom msX3_copyFrom maX3_copyFrom ⟨Nat.le_of_ble_eq_true rfl, Nat.le_of_ble_eq_true rfl⟩ (Nat.le_of_ble_eq_true rfl) rfl rfl dX5_lift_8 ?_
  refine x_heap (h2 := HH (a, a, c, d) Hs T L S V ms mr mm ml mt) (by rfl) ?_
  refine x_aload_n C dX5_lift_11 rfl ?_
  refine x_aload_n C dX5_lift_12 rfl ?_
  refine x_iload_n C dX5_lift_13 rfl ?_
  refine x_callV1i C (okX5_liftNow hk.1.1 y) lkX5_79 miX5_liftNow msX5_liftNow maX5_liftNow ⟨Nat.le_of_ble_eq_true rfl, Nat.le_of_ble_eq_true rfl⟩ (Nat.le_of_ble_eq_true rfl) rfl rfl dX5_lift_14 ?_
  refine x_callV1i C (okX5_keepF hk.2.2.2.2.2.1 hk.2.2.2.2.2.2 hk.2.2.2.2.1 hk.1 _) lkX5_75 miX5_keep msX5_keep maX5_keep ⟨Nat.le_of_ble_eq_true rfl, Nat.le_of_ble_eq_true rfl⟩ (Nat.le_of_ble_eq_true rfl) rfl rfl dX5_lift_17 ?_
  exact x_iret E .int dX5_lift_20 rfl rfl rfl rfl
set_option maxHeartbeats 4000000 in
set_option maxRecDepth 100000 in
theorem okX5_play {a b c d : qP} {Hs : qHs} {T : qTs} {L : qLs} {S : qSs} {V : qVs} {ms : qms} {mr : qmr} {mm : qmm} {ml : qml} {mt : qmt} (x y : Int32) (hk : KP (a, b, c, d) Hs) : Ok MX5_play [.ref 0, .int x, .int y] (HH (a, b, c, d) Hs T L S V ms mr mm ml mt) (some (.int (playF a x y).1)) (HH ((playF a x y).2.2, a, c, d) (kpF Hs a (playF a x y).1) T L S (refP V (playF a x y)) ms mr mm ml mt) := by
  refine ok_of (by decide +kernel) (Nat.zero_le _) (Nat.le_of_ble_eq_true rfl) ?_
  intro X C E
  show Ex X MX5_play 0 [(0, .ref 0), (1, .int x), (2, .int y)] [] (HH (a, b, c, d) Hs T L S V ms mr mm ml mt)
  refine x_aload_n C dX5_play_0 rfl ?_
  refine x_getfield C qk5 1 (by decide) lfX5_16 dX5_play_1 rfl rfl ?_
  refine x_aload_n C dX5_play_4 rfl ?_
  refine x_getfield C qk5 0 (by decide) lfX5_12 dX5_play_5 rfl rfl ?_
  refine x_callV1v C (okX3_copyFrom PosF_before PosF_now hk.2.1 hk.1 (by decide) (by decide) (by decide)) lkX5_67 miX3_copyFrom msX3_copyFrom maX3_copyFrom ⟨Nat.le_of_ble_eq_true rfl, Nat.le_of_ble_eq_true rfl⟩ (Nat.le_of_ble_eq_true rfl) rfl rfl dX5_play_8 ?_
  refine x_heap (h2 := HH (a, a, c, d) Hs T L S V ms mr mm ml mt) (by rfl) ?_
  refine x_aload_n C dX5_play_11 rfl ?_
  refine x_aload_n C dX5_play_12 rfl ?_
  refine x_iload_n C dX5_play_13 rfl ?_
  refine x_iload_n C dX5_play_14 rfl ?_
  refine x_callV2i C (okX5_playNow hk.1.1 x y) lkX5_82 miX5_playNow msX5_playNow maX5_playNow ⟨Nat.le_of_ble_eq_true rfl, Nat.le_of_ble_eq_true rfl⟩ (Nat.le_of_ble_eq_true rfl) rfl rfl dX5_play_15 ?_
  refine x_callV1i C (okX5_keepF hk.2.2.2.2.2.1 hk.2.2.2.2.2.2 hk.2.2.2.2.1 hk.1 _) lkX5_75 miX5_keep msX5_keep maX5_keep ⟨Nat.le_of_ble_eq_true rfl, Nat.le_of_ble_eq_true rfl⟩ (Nat.le_of_ble_eq_true rfl) rfl rfl dX5_play_18 ?_
  exact x_iret E .int dX5_play_21 rfl rfl rfl rfl
set_option maxHeartbeats 4000000 in
set_option maxRecDepth 100000 in
theorem okX5_turn {a b c d : qP} {Hs : qHs} {T : qTs} {L : qLs} {S : qSs} {V : qVs} {ms : qms} {mr : qmr} {mm : qmm} {ml : qml} {mt : qmt}  (hk : KP (a, b, c, d) Hs) : Ok MX5_turn [.ref 0] (HH (a, b, c, d) Hs T L S V ms mr mm ml mt) (some (.int (turnF dstT a).1)) (HH ((turnF dstT a).2.2, a, a, d) (kpF Hs a (turnF dstT a).1) T L S V ms mr mm ml mt) := by
  refine ok_of (by decide +kernel) (Nat.zero_le _) (Nat.le_of_ble_eq_true rfl) ?_
  intro X C E
  show Ex X MX5_turn 0 [(0, .ref 0)] [] (HH (a, b, c, d) Hs T L S V ms mr mm ml mt)
  refine x_aload_n C dX5_turn_0 rfl ?_
  refine x_getfield C qk5 1 (by decide) lfX5_16 dX5_turn_1 rfl rfl ?_
  refine x_aload_n C dX5_turn_4 rfl ?_
  refine x_getfield C qk5 0 (by decide) lfX5_12 dX5_turn_5 rfl rfl ?_
  refine x_callV1v C (okX3_copyFrom PosF_before PosF_now hk.2.1 hk.1 (by decide) (by decide) (by decide)) lkX5_67 miX3_copyFrom msX3_copyFrom maX3_copyFrom ⟨Nat.le_of_ble_eq_true rfl, Nat.le_of_ble_eq_true rfl⟩ (Nat.le_of_ble_eq_true rfl) rfl rfl dX5_turn_8 ?_
  refine x_heap (h2 := HH (a, a, c, d) Hs T L S V ms mr mm ml mt) (by rfl) ?_
  refine x_aload_n C dX5_turn_11 rfl ?_
  refine x_aload_n C dX5_turn_12 rfl ?_
  refine x_callV0i C (okX5_turnNow hk.1 ⟨hk.2.2.1, hk.1⟩) lkX5_85 miX5_turnNow msX5_turnNow maX5_turnNow ⟨Nat.le_of_ble_eq_true rfl, Nat.le_of_ble_eq_true rfl⟩ (Nat.le_of_ble_eq_true rfl) rfl rfl dX5_turn_13 ?_
  refine x_callV1i C (okX5_keepF hk.2.2.2.2.2.1 hk.2.2.2.2.2.2 hk.2.2.2.2.1 hk.1 _) lkX5_75 miX5_keep msX5_keep maX5_keep ⟨Nat.le_of_ble_eq_true rfl, Nat.le_of_ble_eq_true rfl⟩ (Nat.le_of_ble_eq_true rfl) rfl rfl dX5_turn_16 ?_
  exact x_iret E .int dX5_turn_19 rfl rfl rfl rfl
set_option maxHeartbeats 4000000 in
set_option maxRecDepth 100000 in
theorem okX5_mirror {a b c d : qP} {Hs : qHs} {T : qTs} {L : qLs} {S : qSs} {V : qVs} {ms : qms} {mr : qmr} {mm : qmm} {ml : qml} {mt : qmt}  (hk : KP (a, b, c, d) Hs) : Ok MX5_mirror [.ref 0] (HH (a, b, c, d) Hs T L S V ms mr mm ml mt) (some (.int (turnF dstM a).1)) (HH ((turnF dstM a).2.2, a, a, d) (kpF Hs a (turnF dstM a).1) T L S V ms mr mm ml mt) := by
  refine ok_of (by decide +kernel) (Nat.zero_le _) (Nat.le_of_ble_eq_true rfl) ?_
  intro X C E
  show Ex X MX5_mirror 0 [(0, .ref 0)] [] (HH (a, b, c, d) Hs T L S V ms mr mm ml mt)
  refine x_aload_n C dX5_mirror_0 rfl ?_
  refine x_getfield C qk5 1 (by decide) lfX5_16 dX5_mirror_1 rfl rfl ?_
  refine x_aload_n C dX5_mirror_4 rfl ?_
  refine x_getfield C qk5 0 (by decide) lfX5_12 dX5_mirror_5 rfl rfl ?_
  refine x_callV1v C (okX3_copyFrom PosF_before PosF_now hk.2.1 hk.1 (by decide) (by decide) (by decide)) lkX5_67 miX3_copyFrom msX3_copyFrom maX3_copyFrom ⟨Nat.le_of_ble_eq_true rfl, Nat.le_of_ble_eq_true rfl⟩ (Nat.le_of_ble_eq_true rfl) rfl rfl dX5_mirror_8 ?_
  refine x_heap (h2 := HH (a, a, c, d) Hs T L S V ms mr mm ml mt) (by rfl) ?_
  refine x_aload_n C dX5_mirror_11 rfl ?_
  refine x_aload_n C dX5_mirror_12 rfl ?_
  refine x_callV0i C (okX5_mirrorNow hk.1 ⟨hk.2.2.1, hk.1⟩) lkX5_89 miX5_mirrorNow msX5_mirrorNow maX5_mirrorNow ⟨Nat.le_of_ble_eq_true rfl, Nat.le_of_ble_eq_true rfl⟩ (Nat.le_of_ble_eq_true rfl) rfl rfl dX5_mirror_13 ?_
  refine x_callV1i C (okX5_keepF hk.2.2.2.2.2.1 hk.2.2.2.2.2.2 hk.2.2.2.2.1 hk.1 _) lkX5_75 miX5_keep msX5_keep maX5_keep ⟨Nat.le_of_ble_eq_true rfl, Nat.le_of_ble_eq_true rfl⟩ (Nat.le_of_ble_eq_true rfl) rfl rfl dX5_mirror_16 ?_
  exact x_iret E .int dX5_mirror_19 rfl rfl rfl rfl
set_option maxHeartbeats 4000000 in
set_option maxRecDepth 100000 in
theorem okX5_thrift {a b c d : qP} {Hs : qHs} {L : qLs} {S : qSs} {ms : qms} {mr : qmr} {mm : qmm} {ml : qml} {mt : qmt} {Tm Tk : Nat → Int32} {ta mc : Nat → Nat} {sv : Bool} {cm r1 d1 f1 : Int32} (hk : KP (a, b, c, d) Hs) : Ok MX5_thrift [.ref 0] (HH (a, b, c, d) Hs (Tm, Tk, ta, mc) L S (sv, cm, r1, d1, f1) ms mr mm ml mt) (some (.int (thriftF a c Tk).1)) (HH ((thriftF a c Tk).2.2, a, thriftC a c Tk, d) (kpF Hs a (thriftF a c Tk).1) (Tm, thriftK a Tk, ta, mc) L S (refP (sv, cm, r1, d1, f1) (thriftF a c Tk)) ms mr mm ml mt) := by
  refine ok_of (by decide +kernel) (Nat.zero_le _) (Nat.le_of_ble_eq_true rfl) ?_
  intro X C E
  show Ex X MX5_thrift 0 [(0, .ref 0)] [] (HH (a, b, c, d) Hs (Tm, Tk, ta, mc) L S (sv, cm, r1, d1, f1) ms mr mm ml mt)
  refine x_aload_n C dX5_thrift_0 rfl ?_
  refine x_getfield C qk5 1 (by decide) lfX5_16 dX5_thrift_1 rfl rfl ?_
  refine x_aload_n C dX5_thrift_4 rfl ?_
  refine x_getfield C qk5 0 (by decide) lfX5_12 dX5_thrift_5 rfl rfl ?_
  refine x_callV1v C (okX3_copyFrom PosF_before PosF_now hk.2.1 hk.1 (by decide) (by decide) (by decide)) lkX5_67 miX3_copyFrom msX3_copyFrom maX3_copyFrom ⟨Nat.le_of_ble_eq_true rfl, Nat.le_of_ble_eq_true rfl⟩ (Nat.le_of_ble_eq_true rfl) rfl rfl dX5_thrift_8 ?_
  refine x_heap (h2 := HH (a, a, c, d) Hs (Tm, Tk, ta, mc) L S (sv, cm, r1, d1, f1) ms mr mm ml mt) (by rfl) ?_
  refine x_aload_n C dX5_thrift_11 rfl ?_
  refine x_aload_n C dX5_thrift_12 rfl ?_
  refine x_callV0i C (okX5_thriftNow hk.1 hk.2.2.1) lkX5_92 miX5_thriftNow msX5_thriftNow maX5_thriftNow ⟨Nat.le_of_ble_eq_true rfl, Nat.le_of_ble_eq_true rfl⟩ (Nat.le_of_ble_eq_true rfl) rfl rfl dX5_thrift_13 ?_
  refine x_callV1i C (okX5_keepF hk.2.2.2.2.2.1 hk.2.2.2.2.2.2 hk.2.2.2.2.1 hk.1 _) lkX5_75 miX5_keep msX5_keep maX5_keep ⟨Nat.le_of_ble_eq_true rfl, Nat.le_of_ble_eq_true rfl⟩ (Nat.le_of_ble_eq_true rfl) rfl rfl dX5_thrift_16 ?_
  exact x_iret E .int dX5_thrift_19 rfl rfl rfl rfl
