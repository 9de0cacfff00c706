/-! the class's calls: sign, append, tell, show -/
theorem LineA_HH {P : qPs} {Hs : qHs} {T : qTs} {g : Nat → Int32} {n : Nat} {S : qSs} {V : qVs} {ms : qms} {mr : qmr} {mm : qmm} {ml : qml} {mt : qmt} : LineA (HH P Hs T (g, n) S V ms mr mm ml mt) g n := ⟨rfl, rfl⟩
theorem setL_HH {P : qPs} {Hs : qHs} {T : qTs} {g g2 : Nat → Int32} {n n2 : Nat} {S : qSs} {V : qVs} {ms : qms} {mr : qmr} {mm : qmm} {ml : qml} {mt : qmt} : setL (HH P Hs T (g, n) S V ms mr mm ml mt) g2 n2 = HH P Hs T (g2, n2) S V ms mr mm ml mt := rfl
theorem ScA_HH {P : qPs} {Hs : qHs} {T : qTs} {L : qLs} {tx : Nat → Nat} {n : Nat} {q : qQ} {r : qR} {V : qVs} {ms : qms} {mr : qmr} {mm : qmm} {ml : qml} {mt : qmt} : ScQ (HH P Hs T L (tx, n, q, r) V ms mr mm ml mt) tx n q r := ⟨rfl, rfl, rfl, rfl, rfl⟩
/-- characters written behind each other -/
def wrt (g : Nat → Int32) (n : Nat) : List Int32 → (Nat → Int32)
  | [] => g
  | x :: t => wrt (upd g n x) (n + 1) t
theorem wrt_app (g : Nat → Int32) (n : Nat) (l : List Int32) (x : Int32) : wrt g n (l ++ [x]) = upd (wrt g n l) (n + l.length) x := by
  induction l generalizing g n with
  | nil => rfl
  | cons a t ih =>
    show wrt (upd g n a) (n + 1) (t ++ [x]) = upd (wrt (upd g n a) (n + 1) t) (n + (t.length + 1)) x
    rw [ih, Nat.add_assoc, Nat.add_comm 1]
set_option maxHeartbeats 4000000 in
set_option maxRecDepth 100000 in
theorem okX5_sign {a b c d : qP} {Hs : qHs} {T : qTs} {S : qSs} {V : qVs} {ms : qms} {mr : qmr} {mm : qmm} {ml : qml} {mt : qmt} {g : Nat → Int32} {n : Nat} (hn : n ≤ 29) (x : Int32) : Ok MX5_sign [.ref 0, .int x] (HH (a, b, c, d) Hs T (g, n) S V ms mr mm ml mt) (some (.int (lineAt g n x))) (HH (a, b, c, d) Hs T (g, n) S V ms mr mm ml mt) := by
  refine ok_of (by decide +kernel) (Nat.zero_le _) (Nat.le_of_ble_eq_true rfl) ?_
  intro X C E
  show Ex X MX5_sign 0 [(0, .ref 0), (1, .int x)] [] (HH (a, b, c, d) Hs T (g, n) S V ms mr mm ml mt)
  refine x_aload_n C dX5_sign_0 rfl ?_
  refine x_getfield C qk5 10 (by decide) lfX5_52 dX5_sign_1 rfl rfl ?_
  refine x_iload_n C dX5_sign_4 rfl ?_
  refine x_callV1i C (okX1_codeAt LineA_HH hn x) lkX5_196 miX1_codeAt msX1_codeAt maX1_codeAt ⟨Nat.le_of_ble_eq_true rfl, Nat.le_of_ble_eq_true rfl⟩ (Nat.le_of_ble_eq_true rfl) rfl rfl dX5_sign_5 ?_
  exact x_iret E .int dX5_sign_8 rfl rfl rfl rfl
set_option maxHeartbeats 4000000 in
set_option maxRecDepth 100000 in
theorem okX5_append_in {a b c d : qP} {Hs : qHs} {T : qTs} {L : qLs} {V : qVs} {ms : qms} {mr : qmr} {mm : qmm} {ml : qml} {mt : qmt} {tx : Nat → Nat} {n : Nat} {q : qQ} {r : qR} (hn : n < 70) {k : Nat} (hc : 32 ≤ k) (hc2 : k ≤ 126) : Ok MX5_append [.ref 0, .int (nI k)] (HH (a, b, c, d) Hs T L (tx, n, q, r) V ms mr mm ml mt) (some (.int (nI (n + 1)))) (HH (a, b, c, d) Hs T L (up tx n k, n + 1, q, r) V ms mr mm ml mt) := by
  refine ok_of (by decide +kernel) (Nat.zero_le _) (Nat.le_of_ble_eq_true rfl) ?_
  intro X C E
  show Ex X MX5_append 0 [(0, .ref 0), (1, .int (nI k))] [] (HH (a, b, c, d) Hs T L (tx, n, q, r) V ms mr mm ml mt)
  refine x_aload_n C dX5_append_0 rfl ?_
  refine x_getfield C qk5 11 (by decide) lfX5_59 dX5_append_1 rfl rfl ?_
  refine x_iload_n C dX5_append_4 rfl ?_
  refine x_callV1i C (okX4_add ScA_HH hn hc hc2) lkX5_199 miX4_add msX4_add maX4_add ⟨Nat.le_of_ble_eq_true rfl, Nat.le_of_ble_eq_true rfl⟩ (Nat.le_of_ble_eq_true rfl) rfl rfl dX5_append_5 ?_
  refine x_heap (h2 := HH (a, b, c, d) Hs T L (up tx n k, n + 1, q, r) V ms mr mm ml mt) (by rfl) ?_
  exact x_iret E .int dX5_append_8 rfl rfl rfl rfl
set_option maxHeartbeats 4000000 in
set_option maxRecDepth 100000 in
theorem okX5_append_out {a b c d : qP} {Hs : qHs} {T : qTs} {L : qLs} {V : qVs} {ms : qms} {mr : qmr} {mm : qmm} {ml : qml} {mt : qmt} {tx : Nat → Nat} {n : Nat} {q : qQ} {r : qR} (hn : n ≤ 70) {x : Int32} (hx : x < nI 32 ∨ nI 126 < x ∨ n = 70) : Ok MX5_append [.ref 0, .int x] (HH (a, b, c, d) Hs T L (tx, n, q, r) V ms mr mm ml mt) (some (.int (-2))) (HH (a, b, c, d) Hs T L (tx, n, q, r) V ms mr mm ml mt) := by
  refine ok_of (by decide +kernel) (Nat.zero_le _) (Nat.le_of_ble_eq_true rfl) ?_
  intro X C E
  show Ex X MX5_append 0 [(0, .ref 0), (1, .int x)] [] (HH (a, b, c, d) Hs T L (tx, n, q, r) V ms mr mm ml mt)
  refine x_aload_n C dX5_append_0 rfl ?_
  refine x_getfield C qk5 11 (by decide) lfX5_59 dX5_append_1 rfl rfl ?_
  refine x_iload_n C dX5_append_4 rfl ?_
  refine x_callV1i C (okX4_add_out ScA_HH hn hx) lkX5_199 miX4_add msX4_add maX4_add ⟨Nat.le_of_ble_eq_true rfl, Nat.le_of_ble_eq_true rfl⟩ (Nat.le_of_ble_eq_true rfl) rfl rfl dX5_append_5 ?_
  exact x_iret E .int dX5_append_8 rfl rfl rfl rfl
set_option maxHeartbeats 4000000 in
set_option maxRecDepth 100000 in
theorem okX5_tell_out {a b c d : qP} {Hs : qHs} {T : qTs} {L : qLs} {S : qSs} {V : qVs} {ms : qms} {mr : qmr} {mm : qmm} {ml : qml} {mt : qmt} (ha : Bd a.1) {x y : Int32} (hx : isSq x = false ∨ isSq y = false) : Ok MX5_tell [.ref 0, .int x, .int y] (HH (a, b, c, d) Hs T L S V ms mr mm ml mt) (some (.int (-1))) (HH (a, b, c, d) Hs T L S V ms mr mm ml mt) := by
  refine ok_of (by decide +kernel) (Nat.zero_le _) (Nat.le_of_ble_eq_true rfl) ?_
  intro X C E
  show Ex X MX5_tell 0 [(0, .ref 0), (1, .int x), (2, .int y)] [] (HH (a, b, c, d) Hs T L S V ms mr mm ml mt)
  refine x_aload_n C dX5_tell_0 rfl ?_
  refine x_getfield C qk5 0 (by decide) lfX5_12 dX5_tell_1 rfl rfl ?_
  refine x_iload_n C dX5_tell_4 rfl ?_
  refine x_iload_n C dX5_tell_5 rfl ?_
  refine x_callV2i C (okX3_hasMove_out PosA_now hx) lkX5_145 miX3_hasMove msX3_hasMove maX3_hasMove ⟨Nat.le_of_ble_eq_true rfl, Nat.le_of_ble_eq_true rfl⟩ (Nat.le_of_ble_eq_true rfl) rfl rfl dX5_tell_6 ?_
  refine x_if_neN C 14 dX5_tell_9 (by decide) (by omega) (fun c9 => ?_) (fun c9 => ?_)
  · exact absurd rfl c9
  · refine x_iconst C (v := (-1)) dX5_tell_12 (by decide +kernel) ?_
    exact x_iret E .int dX5_tell_13 rfl rfl rfl rfl
set_option maxHeartbeats 4000000 in
set_option maxRecDepth 100000 in
theorem okX5_tell_p0 {a b c d : qP} {Hs : qHs} {T : qTs} {L : qLs} {S : qSs} {V : qVs} {ms : qms} {mr : qmr} {mm : qmm} {ml : qml} {mt : qmt} (ha : Bd a.1) {i j : Nat} (hi : i < 25) (hj : j < 25) (hm : movP a.1 i j = false) : Ok MX5_tell [.ref 0, .int (nI i), .int (nI j)] (HH (a, b, c, d) Hs T L S V ms mr mm ml mt) (some (.int (-1))) (HH (a, b, c, d) Hs T L S V ms mr mm ml mt) := by
  refine ok_of (by decide +kernel) (Nat.zero_le _) (Nat.le_of_ble_eq_true rfl) ?_
  intro X C E
  show Ex X MX5_tell 0 [(0, .ref 0), (1, .int (nI i)), (2, .int (nI j))] [] (HH (a, b, c, d) Hs T L S V ms mr mm ml mt)
  refine x_aload_n C dX5_tell_0 rfl ?_
  refine x_getfield C qk5 0 (by decide) lfX5_12 dX5_tell_1 rfl rfl ?_
  refine x_iload_n C dX5_tell_4 rfl ?_
  refine x_iload_n C dX5_tell_5 rfl ?_
  refine x_callV2i C (okX3_hasMove PosA_now ha.1 hi hj) lkX5_145 miX3_hasMove msX3_hasMove maX3_hasMove ⟨Nat.le_of_ble_eq_true rfl, Nat.le_of_ble_eq_true rfl⟩ (Nat.le_of_ble_eq_true rfl) rfl rfl dX5_tell_6 ?_
  rw [hm]
  refine x_if_neB C 14 dX5_tell_9 (by decide) (fun c9 => ?_) (fun c9 => ?_)
  · cases c9
  · refine x_iconst C (v := (-1)) dX5_tell_12 (by decide +kernel) ?_
    exact x_iret E .int dX5_tell_13 rfl rfl rfl rfl
set_option maxHeartbeats 4000000 in
set_option maxRecDepth 100000 in
theorem okX5_tell_p1 {a b c d : qP} {Hs : qHs} {T : qTs} {L : qLs} {S : qSs} {V : qVs} {ms : qms} {mr : qmr} {mm : qmm} {ml : qml} {mt : qmt} (ha : Bd a.1) {i j : Nat} (hi : i < 25) (hj : j < 25) (hm : movP a.1 i j = true) (hf : fitsB a.1 = false) : Ok MX5_tell [.ref 0, .int (nI i), .int (nI j)] (HH (a, b, c, d) Hs T L S V ms mr mm ml mt) (some (.int (-4))) (HH (a, b, c, d) Hs T L S V ms mr mm ml mt) := by
  refine ok_of (by decide +kernel) (Nat.zero_le _) (Nat.le_of_ble_eq_true rfl) ?_
  intro X C E
  show Ex X MX5_tell 0 [(0, .ref 0), (1, .int (nI i)), (2, .int (nI j))] [] (HH (a, b, c, d) Hs T L S V ms mr mm ml mt)
  refine x_aload_n C dX5_tell_0 rfl ?_
  refine x_getfield C qk5 0 (by decide) lfX5_12 dX5_tell_1 rfl rfl ?_
  refine x_iload_n C dX5_tell_4 rfl ?_
  refine x_iload_n C dX5_tell_5 rfl ?_
  refine x_callV2i C (okX3_hasMove PosA_now ha.1 hi hj) lkX5_145 miX3_hasMove msX3_hasMove maX3_hasMove ⟨Nat.le_of_ble_eq_true rfl, Nat.le_of_ble_eq_true rfl⟩ (Nat.le_of_ble_eq_true rfl) rfl rfl dX5_tell_6 ?_
  rw [hm]
  refine x_if_neB C 14 dX5_tell_9 (by decide) (fun c9 => ?_) (fun c9 => ?_)
  · refine x_aload_n C dX5_tell_14 rfl ?_
    refine x_getfield C qk5 0 (by decide) lfX5_12 dX5_tell_15 rfl rfl ?_
    refine x_callV0i C (okX3_fits PosA_now ha.1) lkX5_117 miX3_fits msX3_fits maX3_fits ⟨Nat.le_of_ble_eq_true rfl, Nat.le_of_ble_eq_true rfl⟩ (Nat.le_of_ble_eq_true rfl) rfl rfl dX5_tell_18 ?_
    rw [hf]
    refine x_if_neB C 27 dX5_tell_21 (by decide) (fun c21 => ?_) (fun c21 => ?_)
    · cases c21
    · refine x_bipush C (v := (-4)) dX5_tell_24 (by decide +kernel) ?_
      exact x_iret E .int dX5_tell_26 rfl rfl rfl rfl
  · cases c9
def tl6 (b : Nat → Nat) (i j : Nat) : List Int32 := [strC 0 (b i), nI (97 + i % 5), nI (49 + i / 5), if b j = 6 then nI 120 else nI 45, nI (97 + j % 5), nI (49 + j / 5)]
def tellL (b : Nat → Nat) (i j : Nat) : List Int32 := if kindB (aft b i j) = 0 then tl6 b i j else tl6 b i j ++ [strC 1 (kindB (aft b i j))]
set_option maxHeartbeats 4000000 in
set_option maxRecDepth 100000 in
theorem okX5_tell_p2 {a b c d : qP} {Hs : qHs} {T : qTs} {S : qSs} {V : qVs} {ms : qms} {mr : qmr} {mm : qmm} {ml : qml} {mt : qmt} {g : Nat → Int32} {n : Nat} (ha : Bd a.1) {i j : Nat} (hi : i < 25) (hj : j < 25) (hm : movP a.1 i j = true) (hf : fitsB a.1 = true) : Ok MX5_tell [.ref 0, .int (nI i), .int (nI j)] (HH (a, b, c, d) Hs T (g, n) S V ms mr mm ml mt) (some (.int (nI (tellL a.1 i j).length))) (HH (a, b, c, d) Hs T (wrt g 0 (tellL a.1 i j), (tellL a.1 i j).length) S V ms mr mm ml mt) := by
  refine ok_of (by decide +kernel) (Nat.zero_le _) (Nat.le_of_ble_eq_true rfl) ?_
  intro X C E
  show Ex X MX5_tell 0 [(0, .ref 0), (1, .int (nI i)), (2, .int (nI j))] [] (HH (a, b, c, d) Hs T (g, n) S V ms mr mm ml mt)
  have hai := ha.1 i
  have haj := ha.1 j
  refine x_aload_n C dX5_tell_0 rfl ?_
  refine x_getfield C qk5 0 (by decide) lfX5_12 dX5_tell_1 rfl rfl ?_
  refine x_iload_n C dX5_tell_4 rfl ?_
  refine x_iload_n C dX5_tell_5 rfl ?_
  refine x_callV2i C (okX3_hasMove PosA_now ha.1 hi hj) lkX5_145 miX3_hasMove msX3_hasMove maX3_hasMove ⟨Nat.le_of_ble_eq_true rfl, Nat.le_of_ble_eq_true rfl⟩ (Nat.le_of_ble_eq_true rfl) rfl rfl dX5_tell_6 ?_
  rw [hm]
  refine x_if_neB C 14 dX5_tell_9 (by decide) (fun c9 => ?_) (fun c9 => ?_)
  · refine x_aload_n C dX5_tell_14 rfl ?_
    refine x_getfield C qk5 0 (by decide) lfX5_12 dX5_tell_15 rfl rfl ?_
    refine x_callV0i C (okX3_fits PosA_now ha.1) lkX5_117 miX3_fits msX3_fits maX3_fits ⟨Nat.le_of_ble_eq_true rfl, Nat.le_of_ble_eq_true rfl⟩ (Nat.le_of_ble_eq_true rfl) rfl rfl dX5_tell_18 ?_
    rw [hf]
    refine x_if_neB C 27 dX5_tell_21 (by decide) (fun c21 => ?_) (fun c21 => ?_)
    · refine x_aload_n C dX5_tell_27 rfl ?_
      refine x_getfield C qk5 10 (by decide) lfX5_52 dX5_tell_28 rfl rfl ?_
      refine x_callV0v C (okX1_clear LineA_HH) lkX5_177 miX1_clear msX1_clear maX1_clear ⟨Nat.le_of_ble_eq_true rfl, Nat.le_of_ble_eq_true rfl⟩ (Nat.le_of_ble_eq_true rfl) rfl rfl dX5_tell_31 ?_
      refine x_heap setL_HH ?_
      refine x_aload_n C dX5_tell_34 rfl ?_
      refine x_getfield C qk5 10 (by decide) lfX5_52 dX5_tell_35 rfl rfl ?_
      refine x_aload_n C dX5_tell_38 rfl ?_
      refine x_getfield C qk5 0 (by decide) lfX5_12 dX5_tell_39 rfl rfl ?_
      refine x_iload_n C dX5_tell_42 rfl ?_
      refine x_callV1i C (okX3_manOn PosA_now hi) lkX5_99 miX3_manOn msX3_manOn maX3_manOn ⟨Nat.le_of_ble_eq_true rfl, Nat.le_of_ble_eq_true rfl⟩ (Nat.le_of_ble_eq_true rfl) rfl rfl dX5_tell_43 ?_
      refine x_callV1v C (okX1_writeMan LineA_HH (by decide) (by omega)) lkX5_180 miX1_writeMan msX1_writeMan maX1_writeMan ⟨Nat.le_of_ble_eq_true rfl, Nat.le_of_ble_eq_true rfl⟩ (Nat.le_of_ble_eq_true rfl) rfl rfl dX5_tell_46 ?_
      refine x_heap setL_HH ?_
      refine x_aload_n C dX5_tell_49 rfl ?_
      refine x_getfield C qk5 10 (by decide) lfX5_52 dX5_tell_50 rfl rfl ?_
      refine x_iload_n C dX5_tell_53 rfl ?_
      refine x_callV1v C (okX1_writeSquare LineA_HH (by decide) hi) lkX5_190 miX1_writeSquare msX1_writeSquare maX1_writeSquare ⟨Nat.le_of_ble_eq_true rfl, Nat.le_of_ble_eq_true rfl⟩ (Nat.le_of_ble_eq_true rfl) rfl rfl dX5_tell_54 ?_
      refine x_heap setL_HH ?_
      refine x_aload_n C dX5_tell_57 rfl ?_
      refine x_getfield C qk5 10 (by decide) lfX5_52 dX5_tell_58 rfl rfl ?_
      refine x_aload_n C dX5_tell_61 rfl ?_
      refine x_getfield C qk5 0 (by decide) lfX5_12 dX5_tell_62 rfl rfl ?_
      refine x_iload_n C dX5_tell_65 rfl ?_
      refine x_callV1i C (okX3_manOn PosA_now hj) lkX5_99 miX3_manOn msX3_manOn maX3_manOn ⟨Nat.le_of_ble_eq_true rfl, Nat.le_of_ble_eq_true rfl⟩ (Nat.le_of_ble_eq_true rfl) rfl rfl dX5_tell_66 ?_
      refine x_bipush C (v := nI 6) dX5_tell_69 (by decide +kernel) ?_
      refine x_icmp_neN C 79 dX5_tell_71 (by decide) (by omega) (by omega) (fun c71 => ?_) (fun c71 => ?_)
      · refine x_bipush C (v := nI 45) dX5_tell_79 (by decide +kernel) ?_
        refine x_callV1v C (okX1_write LineA_HH (by decide) _) lkX5_184 miX1_write msX1_write maX1_write ⟨Nat.le_of_ble_eq_true rfl, Nat.le_of_ble_eq_true rfl⟩ (Nat.le_of_ble_eq_true rfl) rfl rfl dX5_tell_81 ?_
        refine x_heap setL_HH ?_
        refine x_aload_n C dX5_tell_84 rfl ?_
        refine x_getfield C qk5 10 (by decide) lfX5_52 dX5_tell_85 rfl rfl ?_
        refine x_iload_n C dX5_tell_88 rfl ?_
        refine x_callV1v C (okX1_writeSquare LineA_HH (by decide) hj) lkX5_190 miX1_writeSquare msX1_writeSquare maX1_writeSquare ⟨Nat.le_of_ble_eq_true rfl, Nat.le_of_ble_eq_true rfl⟩ (Nat.le_of_ble_eq_true rfl) rfl rfl dX5_tell_89 ?_
        refine x_heap setL_HH ?_
        refine x_aload_n C dX5_tell_92 rfl ?_
        refine x_getfield C qk5 10 (by decide) lfX5_52 dX5_tell_93 rfl rfl ?_
        refine x_aload_n C dX5_tell_96 rfl ?_
        refine x_getfield C qk5 0 (by decide) lfX5_12 dX5_tell_97 rfl rfl ?_
        refine x_iload_n C dX5_tell_100 rfl ?_
        refine x_iload_n C dX5_tell_101 rfl ?_
        refine x_callV2i C (okX3_kindOfMove PosA_now ha.1 hi hj) lkX5_149 miX3_kindOfMove msX3_kindOfMove maX3_kindOfMove ⟨Nat.le_of_ble_eq_true rfl, Nat.le_of_ble_eq_true rfl⟩ (Nat.le_of_ble_eq_true rfl) rfl rfl dX5_tell_102 ?_
        refine x_callV1v C (okX1_writeMoveSign LineA_HH (by decide) (kindB_le _)) lkX5_193 miX1_writeMoveSign msX1_writeMoveSign maX1_writeMoveSign ⟨Nat.le_of_ble_eq_true rfl, Nat.le_of_ble_eq_true rfl⟩ (Nat.le_of_ble_eq_true rfl) rfl rfl dX5_tell_105 ?_
        refine x_heap setL_HH ?_
        refine x_aload_n C dX5_tell_108 rfl ?_
        refine x_getfield C qk5 10 (by decide) lfX5_52 dX5_tell_109 rfl rfl ?_
        refine x_getfield C qk1 1 (by decide) lfX5_187 dX5_tell_112 rfl rfl ?_
        exact x_iret E .int dX5_tell_115 rfl rfl (by unfold tellL tl6; rw [if_neg c71]; by_cases hk0 : kindB (aft a.1 i j) = 0; (rw [if_pos hk0]; show _ = some (Value.int (nI (sgnN _ _))); unfold sgnN; rw [if_pos hk0]; rfl); (rw [if_neg hk0]; show _ = some (Value.int (nI (sgnN _ _))); unfold sgnN; rw [if_neg hk0]; rfl)) (by unfold tellL tl6; rw [if_neg c71]; by_cases hk0 : kindB (aft a.1 i j) = 0; (rw [if_pos hk0]; unfold sgnL sgnN; rw [if_pos hk0, if_pos hk0]; rfl); (rw [if_neg hk0]; unfold sgnL sgnN; rw [if_neg hk0, if_neg hk0]; rfl))
      · refine x_bipush C (v := nI 120) dX5_tell_74 (by decide +kernel) ?_
        refine x_goto C 81 dX5_tell_76 (by decide) ?_
        refine x_callV1v C (okX1_write LineA_HH (by decide) _) lkX5_184 miX1_write msX1_write maX1_write ⟨Nat.le_of_ble_eq_true rfl, Nat.le_of_ble_eq_true rfl⟩ (Nat.le_of_ble_eq_true rfl) rfl rfl dX5_tell_81 ?_
        refine x_heap setL_HH ?_
        refine x_aload_n C dX5_tell_84 rfl ?_
        refine x_getfield C qk5 10 (by decide) lfX5_52 dX5_tell_85 rfl rfl ?_
        refine x_iload_n C dX5_tell_88 rfl ?_
        refine x_callV1v C (okX1_writeSquare LineA_HH (by decide) hj) lkX5_190 miX1_writeSquare msX1_writeSquare maX1_writeSquare ⟨Nat.le_of_ble_eq_true rfl, Nat.le_of_ble_eq_true rfl⟩ (Nat.le_of_ble_eq_true rfl) rfl rfl dX5_tell_89 ?_
        refine x_heap setL_HH ?_
        refine x_aload_n C dX5_tell_92 rfl ?_
        refine x_getfield C qk5 10 (by decide) lfX5_52 dX5_tell_93 rfl rfl ?_
        refine x_aload_n C dX5_tell_96 rfl ?_
        refine x_getfield C qk5 0 (by decide) lfX5_12 dX5_tell_97 rfl rfl ?_
        refine x_iload_n C dX5_tell_100 rfl ?_
        refine x_iload_n C dX5_tell_101 rfl ?_
        refine x_callV2i C (okX3_kindOfMove PosA_now ha.1 hi hj) lkX5_149 miX3_kindOfMove msX3_kindOfMove maX3_kindOfMove ⟨Nat.le_of_ble_eq_true rfl, Nat.le_of_ble_eq_true rfl⟩ (Nat.le_of_ble_eq_true rfl) rfl rfl dX5_tell_102 ?_
        refine x_callV1v C (okX1_writeMoveSign LineA_HH (by decide) (kindB_le _)) lkX5_193 miX1_writeMoveSign msX1_writeMoveSign maX1_writeMoveSign ⟨Nat.le_of_ble_eq_true rfl, Nat.le_of_ble_eq_true rfl⟩ (Nat.le_of_ble_eq_true rfl) rfl rfl dX5_tell_105 ?_
        refine x_heap setL_HH ?_
        refine x_aload_n C dX5_tell_108 rfl ?_
        refine x_getfield C qk5 10 (by decide) lfX5_52 dX5_tell_109 rfl rfl ?_
        refine x_getfield C qk1 1 (by decide) lfX5_187 dX5_tell_112 rfl rfl ?_
        exact x_iret E .int dX5_tell_115 rfl rfl (by unfold tellL tl6; rw [if_pos c71]; by_cases hk0 : kindB (aft a.1 i j) = 0; (rw [if_pos hk0]; show _ = some (Value.int (nI (sgnN _ _))); unfold sgnN; rw [if_pos hk0]; rfl); (rw [if_neg hk0]; show _ = some (Value.int (nI (sgnN _ _))); unfold sgnN; rw [if_neg hk0]; rfl)) (by unfold tellL tl6; rw [if_pos c71]; by_cases hk0 : kindB (aft a.1 i j) = 0; (rw [if_pos hk0]; unfold sgnL sgnN; rw [if_pos hk0, if_pos hk0]; rfl); (rw [if_neg hk0]; unfold sgnL sgnN; rw [if_neg hk0, if_neg hk0]; rfl))
    · cases c21
  · cases c9
